/-! one instruction, held against the machine's -/
section
variable {E : aEnv} {M : Nat} {p : Program} {l : Launch} {e : Env} {R : Room} {s : State} {m : MethodId} {args : Array Value} {below : List Frame} {meth : Method} {c : Code} {H : Heap} {locs : List Loc} {cells slots : Nat} {Q : State → Prop}
variable {pc : Nat} {ls st : List Value} {lsC : Array Slot} {σ : HS}
theorem aW_ne {I : Nat → Nat → Int32} {a j k : Nat} {v : Int32} (h : k ≠ a) : aW I a j v k = I k := by
  funext i
  simp [aW, h]
theorem aR_ne {I : Nat → Nat → Option Nat} {a j k : Nat} {v : Option Nat} (h : k ≠ a) : aR I a j v k = I k := by
  funext i
  simp [aR, h]
theorem cv_int {x : Int32} : eCv E (.int x) = .int x := rfl
theorem cv_null : eCv E .null = .null := rfl
/-- what is held as a method is walked -/
def eIn (E : aEnv) (M : Nat) (s : State) (ls st : List Value) (lsC : Array Slot) (σ : HS) (H : Heap) (locs : List Loc) : Prop := eHo E σ H ∧ va_S (eA E) s.heap H locs ∧ eLr E (aNL M) ls lsC ∧ ∀ v ∈ st, v.category = 1
/-- the walk from here on, the mini-machine standing at (pc', ls', st', σ') -/
def eK (E : aEnv) (M : Nat) (p : Program) (l : Launch) (e : Env) (R : Room) (s : State) (m : MethodId) (args : Array Value) (below : List Frame) (meth : Method) (c : Code) (Q : State → Prop) (cells slots : Nat) (pc' : Nat) (ls' st' : List Value) (σ' : HS) : Prop := ∀ (H' : Heap) (locs' : List Loc) (lsC' : Array Slot), eIn E M s ls' st' lsC' σ' H' locs' → W p l e R s m args below meth c H' locs' cells slots Q (F0 m pc' lsC' (st'.map (eCv E)))
theorem nx_inv {pc pc' : Nat} {ls ls' st st' : List Value} {σ σ' : HS} (h : aNx pc ls st σ = some (.inl (pc', ls', st', σ'))) : pc' = pc ∧ ls' = ls ∧ st' = st ∧ σ' = σ := by
  unfold aNx at h
  cases h
  exact ⟨rfl, rfl, rfl, rfl⟩
theorem tg_inv {pc pc' : Nat} {off : Int} {ls ls' st st' : List Value} {σ σ' : HS} (h : aTg pc off ls st σ = some (.inl (pc', ls', st', σ'))) : (pc : Int) + off = (pc' : Int) ∧ ls' = ls ∧ st' = st ∧ σ' = σ := by
  unfold aTg at h
  split at h
  · cases h
    exact ⟨by omega, rfl, rfl, rfl⟩
  · cases h
theorem cat_cons {v : Value} {r : List Value} (h1 : v.category = 1) (h : ∀ w ∈ r, w.category = 1) : ∀ w ∈ v :: r, w.category = 1 := List.forall_mem_cons.mpr ⟨h1, h⟩
theorem cat_tl {v : Value} {r : List Value} (h : ∀ w ∈ v :: r, w.category = 1) : ∀ w ∈ r, w.category = 1 := fun w hw => h w (List.mem_cons_of_mem _ hw)
theorem aLk_mem {α : Type} : ∀ {l : List ((Nat × Nat) × α)} {a b : Nat} {x : α}, aLk l a b = some x → ((a, b), x) ∈ l
  | [], _, _, _, h => by cases h
  | e :: r, a, b, x, h => by
    unfold aLk at h
    cases hb : (Nat.beq e.1.1 a && Nat.beq e.1.2 b) with
    | false =>
      rw [hb] at h
      exact List.mem_cons_of_mem _ (aLk_mem h)
    | true =>
      rw [hb] at h
      simp only [cond_true, Option.some.injEq] at h
      simp only [Bool.and_eq_true, Nat.beq_eq] at hb
      obtain ⟨⟨a1, b1⟩, y⟩ := e
      obtain ⟨rfl, rfl⟩ := hb
      subst h
      exact List.mem_cons_self
theorem dec_at {i : Instr} (hM : M < 252) (h : aP M pc = some i) : ∃ n, decode (aBy M) pc = .ok (i, n) ∧ aLn i n = true := by
  have hD := aD_all M hM
  unfold aP at h
  generalize aGet [] aGs M = g at hD h
  induction g with
  | nil => cases h
  | cons x r ih =>
    unfold aPi at h
    cases hb : Nat.beq x.1 pc with
    | false =>
      rw [hb] at h
      exact ih (fun y hy => hD y (List.mem_cons_of_mem _ hy)) h
    | true =>
      rw [hb] at h
      simp only [cond_true, Option.some.injEq] at h
      have := hD x List.mem_cons_self
      rw [Nat.beq_eq.mp hb, h] at this
      exact ⟨_, this⟩
variable {pc' : Nat} {ls' st' : List Value} {σ' : HS}
theorem eIn_st {st2 : List Value} {ls2 : List Value} {lsC2 : Array Slot} (hI : eIn E M s ls st lsC σ H locs) (h1 : ls2 = ls) (h2 : lsC2 = lsC) (h : ∀ v ∈ st2, v.category = 1) : eIn E M s ls2 st2 lsC2 σ H locs := by
  subst h1; subst h2
  exact ⟨hI.1, hI.2.1, hI.2.2.1, h⟩
/-- storing in a local -/
theorem sx_store {k : Nat} {v : Value} {r : List Value} (hI : eIn E M s ls (v :: r) lsC σ H locs) (hk : k < ls.length) (row : ∀ (lv : List (Nat × Value)), lv_has lsC (aNL M) lv → k < aNL M → (∀ ls' : Array Slot, lv_has ls' (aNL M) ((k, eCv E v) :: lv.filter (fun q => !(q.1 == k) && !(q.1 + 1 == k && q.2.category == 2))) → W p l e R s m args below meth c H locs cells slots Q (F0 m pc' ls' (r.map (eCv E)))) → W p l e R s m args below meth c H locs cells slots Q (F0 m pc lsC ((v :: r).map (eCv E))))
    (kk : eK E M p l e R s m args below meth c Q cells slots pc' (aLs ls k v) r σ) : W p l e R s m args below meth c H locs cells slots Q (F0 m pc lsC ((v :: r).map (eCv E))) := by
  obtain ⟨h1, h2, ⟨h3, lv, h4, h5⟩, h6⟩ := hI
  exact row lv h4 (by omega) (fun ls' hl => kk H locs ls' ⟨h1, h2, eLr_set h3 hk h5 hl, cat_tl h6⟩)
/-- reading a place -/
theorem lsC_size (hI : eIn E M s ls st lsC σ H locs) (hC : eCx E M p s m args meth c) : c.maxLocals = lsC.size := by
  obtain ⟨-, -, ⟨-, lv, h4, -⟩, -⟩ := hI
  rw [hC.2.2.2.1, h4.1]
theorem fs_at {κ a j : Nat} (hj : j < aNf κ) : (eFs E σ κ a)[j]? = some (eFv E σ κ a j) := by
  unfold eFs
  rw [List.getElem?_map, List.getElem?_range hj]
  rfl
theorem fs_len {κ a : Nat} : (eFs E σ κ a).length = aNf κ := by simp [eFs]
theorem aS_of {κ : Nat} (w : Cond) {L : List Cond} (hw : w ∈ L) (h : ∀ w ∈ L, w ∈ aTb) (hC : eCx E M p s m args meth c) : w.before args s = true := hC.2.2.2.2.2.1 w (h w hw)
theorem afl_mem {k κ j t : Nat} {f : Bool} (h : aLk aFl (aOw M) k = some (κ, j, t, f)) : aFw ((aOw M, k), κ, j, t, f) ∈ aTb ∧ aFok ((aOw M, k), κ, j, t, f) = true := by
  have h1 := aLk_mem h
  exact ⟨aF_w _ (List.mem_map.mpr ⟨_, h1, rfl⟩), List.all_eq_true.mp aF_ok _ h1⟩
def aVf (t : Nat) (r : Option Nat) (x : Int32) : Value := match t with
  | 1 => va_rf r
  | _ => .int x
theorem aVf_cat (t : Nat) (r : Option Nat) (x : Int32) : (aVf t r x).category = 1 := by
  unfold aVf
  split
  · exact vrf_cat _
  · rfl
theorem sx_get {k κ j t : Nat} {f : Bool} {a : Nat} {r : List Value} (hC : eCx E M p s m args meth c) (hI : eIn E M s ls (.ref a :: r) lsC σ H locs) (hk : aLk aFl (aOw M) k = some (κ, j, t, f)) (ha : (σ.1 a).1 = κ) (hd : decode (aBy M) pc = .ok (.getfield k, 3))
    (kk : eK E M p l e R s m args below meth c Q cells slots (pc + 3) ls (aVf t (σ.2.2.1 a j) (σ.2.1 a j) :: r) σ) : W p l e R s m args below meth c H locs cells slots Q (F0 m pc lsC ((Value.ref a :: r).map (eCv E))) := by
  obtain ⟨hw, hok⟩ := afl_mem hk
  obtain ⟨hx, hb, hr, hml, hown, hts, hlk, hin, hK, hSt, hbase, hM⟩ := id hC
  unfold aFok at hok
  by_cases h14 : κ = 14
  · subst h14
    have hlt : a < 16 := by
      rcases Nat.lt_or_ge a 16 with q | q
      · exact q
      · rcases Nat.lt_or_ge a σ.2.2.2.1 with q2 | q2
        · have := (hI.1.2.2.2.2 a q q2).1; omega
        · have := hI.1.2.2.2.1 a q2; rw [this] at ha; simp at ha
    have h0 := hI.1.2.2.1 a hlt
    have hne : a ≠ 14 := by
      intro q
      subst q
      rw [h0.1, hSt.2.1] at ha
      omega
    have hcv : eCv E (.ref a) = .ref (E.1 a) := by
      show va_rf (eAo E a) = _
      unfold eAo eAd
      rw [if_neg hne, if_pos hlt]
      rfl
    rw [h0.1] at ha
    have hstr := hSt.1 a hlt
    rcases hstr with g | g | g | g
    · omega
    · omega
    · obtain ⟨-, g1, g2, g3⟩ := g
      have hl := hts _ hw
      unfold aFw at hl
      rw [if_pos rfl] at hl
      dsimp only at hl
      rw [List.map_cons, hcv]
      have htab : (j = 0 ∧ t = 1) ∨ (j = 1 ∧ t = 0) := by
        have h1 := aLk_mem hk
        have : ∀ e ∈ aFl, e.2.1 = 14 → (e.2.2.1 = 0 ∧ e.2.2.2.1 = 1) ∨ (e.2.2.1 = 1 ∧ e.2.2.2.1 = 0) := by decide +kernel
        exact this _ h1 rfl
      rcases htab with ⟨rfl, rfl⟩ | ⟨rfl, rfl⟩
      · refine vk_getf hx hb g3 hI.2.1 hown hl (fun _ h9 => h9) hd ?_
        have := kk H locs lsC (eIn_st hI rfl rfl (cat_cons (aVf_cat _ _ _) (cat_tl hI.2.2.2)))
        rw [List.map_cons, show aVf 1 (σ.2.2.1 a 0) (σ.2.1 a 0) = va_rf (σ.2.2.1 a 0) from rfl, eCv_rf, h0.2.2] at this
        exact this
      · refine vk_getf hx hb g2 hI.2.1 hown hl (fun _ h9 => h9) hd ?_
        have := kk H locs lsC (eIn_st hI rfl rfl (cat_cons (aVf_cat _ _ _) (cat_tl hI.2.2.2)))
        rw [List.map_cons, show aVf 0 (σ.2.2.1 a 1) (σ.2.1 a 1) = .int (σ.2.1 a 1) from rfl, h0.2.1] at this
        exact this
    · omega
  · rw [if_neg h14] at hok
    simp only [Bool.and_eq_true, decide_eq_true_eq] at hok
    obtain ⟨⟨⟨⟨q1, q2⟩, q3⟩, q4⟩, q5⟩ := hok
    obtain ⟨h16, hlt, hat, hcv⟩ := eHo_at hI.1 hSt ha (by omega) (Or.inl (by omega))
    rw [eCe_obj ha q1] at hat
    have hl := hts _ hw
    unfold aFw at hl
    rw [if_neg h14] at hl
    rw [List.map_cons, hcv]
    refine va_get (C := aCs κ) (T := aTT κ) (N := aNf κ) (v := eFv E σ κ a j) hx hb hts (aC_w κ q1) hown hK (eP1 hat) 0 rfl (aCl_at κ q1) j q2 hl (by rw [q4]; exact fun _ h9 => h9) (fs_at q2) hd ?_
    have hv : eCv E (aVf t (σ.2.2.1 a j) (σ.2.1 a j)) = eFv E σ κ a j := by
      unfold eFv
      rw [q3]
      by_cases ht : t = 1
      · subst ht
        rw [if_pos rfl]
        exact eCv_rf _
      · rw [if_neg ht]
        unfold aVf
        split
        · exact absurd rfl ht
        · rfl
    have := kk H locs lsC (eIn_st hI rfl rfl (cat_cons (aVf_cat _ _ _) (cat_tl hI.2.2.2)))
    rw [List.map_cons, hv] at this
    exact this

section
variable {cc : ByteArray} {rest : List Value} {D : va_G} {cl : List vw_C} {A : Nat → Prop} {a : Nat} {tys : List (ClassId × FieldType)} {H0 : Heap}
theorem x_put (hexec : p.tables.exec = Jvm.exec) (hb : c.code = cc) {own ref C : String} {T : u_T} {N ci index : Nat} {Ts : List Cond} (hts : ∀ w ∈ Ts, w.before args s = true) (hin : ∀ w ∈ u_ws C T N, w ∈ Ts) (ty0 : Nat → FieldType) (hty : ∀ k, k < N → parseFieldDescriptor (T k).2.2.1 = some (ty0 k)) (hnm : ∀ a, a < N → ∀ b, b < N → a ≠ b → (T a).2.1 ≠ (T b).2.1) (hown : s.vm.findClass own = some m.cls) (hK : va_K D cl tys s) (hA : A a) (hS0 : va_S A H0 H locs) {fs : List Value} (he : va_at D cl (a, .inr (ci, fs)) H) (hc : cl[ci]? = some (C, T, N)) (k : Nat) (hk : k < N) (hlink : (Cond.fieldLink own index ref (T k).2.1 (T k).2.2.1).before args s = true) (hsame : ∀ x, s.fieldFound? (T k).1 (T k).2.1 (T k).2.2.1 = some x → s.fieldFound? ref (T k).2.1 (T k).2.2.1 = some x) (hfin : (T k).2.2.2 = false ∨ ((T k).2.2.2 = true ∧ meth.name = "<init>" ∧ (T k).1 = own)) {ty : FieldType} {v : Value} (hd : parseFieldDescriptor (T k).2.2.1 = some ty) (hn : narrow ty v = v) (hfit : fits ty v = true) (hl : k < fs.length)
    (hdg : decode cc pc = .ok (.putfield index, 3)) (kk : ∀ (H1 : Heap) (locs1 : List Loc), va_at D cl (a, .inr (ci, fs.set k v)) H1 → H1.size = H.size → (∀ q : Nat, q ≠ a → H1[q]? = H[q]?) → va_S A H0 H1 locs1 → W p l e R s m args below meth c H1 locs1 cells slots Q (F0 m (pc + 3) lsC rest)) : W p l e R s m args below meth c H locs cells slots Q (F0 m pc lsC (v :: .ref a :: rest)) := by
  have hap := va_apart (own := own) hts hin ty0 hty hnm hK hc
  obtain ⟨r, h1, cell, q1, q2, q3, q4⟩ := he
  have hr : r = (C, T, N) := Option.some.inj (h1.symm.trans hc)
  subst hr
  obtain ⟨hS, hfc, kC, hkC, hkind⟩ := hK.1 ci _ hc
  obtain ⟨cf, kf, fi, f, hi, hsl⟩ := hS k hk
  have hlay := hts _ (hin _ (u_in_lay hk))
  have hst := (u_facts hfc hkC (u_lays hts hin hk) hi).1
  unfold u_lay at hlay
  rcases hfin with hfin | ⟨hfin, hin2, hdecl⟩
  · rw [if_neg (by rw [hfin]; decide)] at hlay
    have h6 := u_store hfc hkC hkind hlay hi hd hn hfit
    refine W.putK hexec hb (f := f) ⟨hown, hlink, ⟨_, _, _, hsame _ hi⟩, hst⟩ (by rw [q2]; exact h6) q1 q3 (by rw [hsl]; exact k2_hasslot (q4 k hk)) rfl rfl hdg fun H' e1 e2 e3 => ?_
    rw [hsl] at e1 ⊢
    exact kk H' _ ⟨_, hc, t_OB.to (V := updV (vp_V fs) k v) ⟨_, e1, q2, q3, t_set q4 hap hk v⟩ (fun j _ => vp_updV_set hl v j)⟩ e2 e3 (hS0.put e2 e3 hA)
  · rw [if_pos hfin] at hlay
    have hcf : m.cls = cf := by
      obtain ⟨_, _, c', _, _, _, -, -, hf', -, -, -, hown2, -⟩ := Cond.laysFinal_spec hlay
      have e1 : c' = cf := by have := hi.symm.trans hf'; simp at this; exact this.1.symm
      rw [hdecl] at hown2
      rw [← e1]; exact Option.some.inj (hown.symm.trans hown2)
    have h6 := u_fits hfc hkC hkind (Or.inr hlay) hi hd hn hfit
    refine W.putFinK hexec hb hown hlink (hsame _ hi) hst hcf hin2 (by rw [q2]; exact h6) q1 q3 (by rw [hsl]; exact k2_hasslot (q4 k hk)) rfl rfl hdg fun H' e1 e2 e3 => ?_
    rw [hsl] at e1 ⊢
    exact kk H' _ ⟨_, hc, t_OB.to (V := updV (vp_V fs) k v) ⟨_, e1, q2, q3, t_set q4 hap hk v⟩ (fun j _ => vp_updV_set hl v j)⟩ e2 e3 (hS0.put e2 e3 hA)
end
theorem eAd_A {a : Nat} (h : 16 ≤ a) : eA E (eAd E a) := by
  unfold eA eAd
  rw [if_neg (by omega)]
  omega
theorem fs_set {κ a j : Nat} {v : Value} (hj : j < aNf κ) (hv : eFv E σ' κ a j = v) (ho : ∀ i, i ≠ j → eFv E σ' κ a i = eFv E σ κ a i) : (eFs E σ κ a).set j v = eFs E σ' κ a := by
  apply List.ext_getElem?
  intro i
  by_cases hi : i < aNf κ
  · rw [fs_at hi, List.getElem?_set]
    by_cases e : j = i
    · subst e
      rw [if_pos rfl, if_pos (by rw [fs_len]; exact hj), hv]
    · rw [if_neg e, fs_at hi, ho i (Ne.symm e)]
  · rw [List.getElem?_eq_none (by rw [List.length_set, fs_len]; omega), List.getElem?_eq_none (by rw [fs_len]; omega)]
theorem sx_put {k κ j t : Nat} {f : Bool} {a : Nat} {v : Value} {r : List Value} (hC : eCx E M p s m args meth c) (hI : eIn E M s ls (v :: .ref a :: r) lsC σ H locs) (hk : aLk aFl (aOw M) k = some (κ, j, t, f)) (hf : f = false ∨ (aIn M = true ∧ aOw M = κ)) (hd : decode (aBy M) pc = .ok (.putfield k, 3)) (hp : aPf κ a j t v σ (fun τ => aNx (pc + 3) ls r τ) = some (.inl (pc', ls', st', σ')))
    (kk : eK E M p l e R s m args below meth c Q cells slots pc' ls' st' σ') : W p l e R s m args below meth c H locs cells slots Q (F0 m pc lsC ((v :: .ref a :: r).map (eCv E))) := by
  obtain ⟨hw, hok⟩ := afl_mem hk
  obtain ⟨hx, hb, hr, hml, hown, hts, hlk, hin, hK, hSt, hbase, hM⟩ := id hC
  unfold aPf at hp
  split at hp
  case isFalse => cases hp
  rename_i hg
  obtain ⟨ha, h8, h16⟩ := hg
  have h14 : ¬ κ = 14 := by omega
  unfold aFok at hok
  rw [if_neg h14] at hok
  simp only [Bool.and_eq_true, decide_eq_true_eq] at hok
  obtain ⟨⟨⟨⟨q1, q2⟩, q3⟩, q4⟩, q5⟩ := hok
  obtain ⟨-, hlt, hat, hcv⟩ := eHo_at hI.1 hSt ha (by omega) (Or.inl (by omega))
  rw [eCe_obj ha q1] at hat
  have hl := hts _ hw
  unfold aFw at hl
  rw [if_neg h14] at hl
  have hfin : (aTT κ j).2.2.2 = false ∨ ((aTT κ j).2.2.2 = true ∧ meth.name = "<init>" ∧ (aTT κ j).1 = aCs (aOw M)) := by
    rcases hf with hf | ⟨hf1, hf2⟩
    · exact Or.inl (q5.trans hf)
    · cases hq : (aTT κ j).2.2.2 with
      | false => exact Or.inl rfl
      | true => exact Or.inr ⟨rfl, hin hf1, by rw [q4, hf2]⟩
  have hyk := (aYY_k κ q1 j q2)
  have main : ∀ (σ2 : HS), σ2.1 = σ.1 → σ2.2.2.2 = σ.2.2.2 → (∀ k, k ≠ a → σ2.2.1 k = σ.2.1 k) → (∀ k, k ≠ a → σ2.2.2.1 k = σ.2.2.1 k) → narrow (aYY κ j) (eCv E v) = eCv E v → fits (aYY κ j) (eCv E v) = true → eFv E σ2 κ a j = eCv E v → (∀ i, i ≠ j → eFv E σ2 κ a i = eFv E σ κ a i) → aNx (pc + 3) ls r σ2 = some (.inl (pc', ls', st', σ')) → W p l e R s m args below meth c H locs cells slots Q (F0 m pc lsC ((v :: .ref a :: r).map (eCv E))) := by
    intro σ2 g1 g2 g3 g4 g5 g6 g7 g8 g9
    obtain ⟨rfl, rfl, rfl, rfl⟩ := nx_inv g9
    rw [List.map_cons, List.map_cons, hcv]
    refine x_put (C := aCs κ) (T := aTT κ) (N := aNf κ) hx hb hts (aC_w κ q1) (aYY κ) (aYY_ok κ q1) (aTT_nm κ q1) hown hK (eAd_A h16) hI.2.1 hat (aCl_at κ q1) j q2 hl (by rw [q4]; exact fun _ h9 => h9) hfin (aYY_ok κ q1 j q2) g5 g6 (by rw [fs_len]; exact q2) hd ?_
    intro H1 locs1 hat1 z oq hS1
    refine kk H1 locs1 lsC ⟨eHo_upd hI.1 h16 g1 (by rw [g2]) g3 g4 z oq ?_, hS1, hI.2.2.1, cat_tl (cat_tl hI.2.2.2)⟩
    rw [eCe_obj (by rw [g1]; exact ha) q1, ← fs_set q2 g7 g8]
    exact hat1
  have hfv : ∀ (σ2 : HS) i, i ≠ j → (∀ q, q ≠ j → σ2.2.1 a q = σ.2.1 a q) → (∀ q, q ≠ j → σ2.2.2.1 a q = σ.2.2.1 a q) → eFv E σ2 κ a i = eFv E σ κ a i := by
    intro σ2 i hi w1 w2
    unfold eFv
    rw [w1 i hi, w2 i hi]
  rw [q3] at hyk
  split at hp
  · rename_i x
    have hp2 : aNx (pc + 3) ls r (σ.1, aW σ.2.1 a j x, σ.2.2.1, σ.2.2.2) = some (.inl (pc', ls', st', σ')) := hp
    have hty : aYY κ j = .int := by
      generalize aYY κ j = y at hyk
      cases y <;> first | rfl | (exact absurd hyk.1 (by simp [aYk]))
    refine main (σ.1, aW σ.2.1 a j x, σ.2.2.1, σ.2.2.2) rfl rfl (fun k hk => aW_ne hk) (fun k hk => rfl) (by rw [hty]; rfl) (by rw [hty]; rfl) ?_ (fun i hi => hfv _ i hi (fun q hq => by simp [aW, hq]) (fun q hq => rfl)) hp2
    unfold eFv
    rw [q3, if_neg (by decide)]
    simp [aW, eCv]
  · rename_i x
    split at hp
    case isFalse => cases hp
    rename_i hx01
    have hp2 : aNx (pc + 3) ls r (σ.1, aW σ.2.1 a j x, σ.2.2.1, σ.2.2.2) = some (.inl (pc', ls', st', σ')) := hp
    have hty : aYY κ j = .boolean := by
      generalize aYY κ j = y at hyk
      cases y <;> first | rfl | (exact absurd hyk.1 (by simp [aYk]))
    refine main (σ.1, aW σ.2.1 a j x, σ.2.2.1, σ.2.2.2) rfl rfl (fun k hk => aW_ne hk) (fun k hk => rfl) (by rw [hty]; rcases hx01 with rfl | rfl <;> rfl) (by rw [hty]; rcases hx01 with rfl | rfl <;> rfl) ?_ (fun i hi => hfv _ i hi (fun q hq => by simp [aW, hq]) (fun q hq => rfl)) hp2
    unfold eFv
    rw [q3, if_neg (by decide)]
    simp [aW, eCv]
  · rename_i b
    have hp2 : aNx (pc + 3) ls r (σ.1, σ.2.1, aR σ.2.2.1 a j (some b), σ.2.2.2) = some (.inl (pc', ls', st', σ')) := hp
    have href := hyk.2 (hyk.1.symm)
    refine main (σ.1, σ.2.1, aR σ.2.2.1 a j (some b), σ.2.2.2) rfl rfl (fun k hk => rfl) (fun k hk => aR_ne hk) ?_ ?_ ?_ (fun i hi => hfv _ i hi (fun q hq => rfl) (fun q hq => by simp [aR, hq])) hp2
    · show narrow _ (va_rf _) = va_rf _
      generalize aYY κ j = y at href
      cases eAo E b <;> cases y <;> first | rfl | (exact absurd href (by simp [refKind]))
    · show fits _ (va_rf _) = true
      generalize aYY κ j = y at href
      cases eAo E b <;> cases y <;> first | rfl | (exact absurd href (by simp [refKind]))
    · unfold eFv
      rw [q3, if_pos rfl]
      simp [aR, eCv]
  · cases hp
section
variable {cc : ByteArray} {rest : List Value} {D : va_G} {cl : List vw_C} {A : Nat → Prop} {a : Nat} {H0 : Heap} {cA : ClassId} {n : Nat} {f : Nat → Int32} {i x : Int32}
theorem x_iast (hexec : p.tables.exec = Jvm.exec) (hb : c.code = cc) (hAr : ArrOfT s cA .int) (ha : va_at D cl (a, .inl (cA, n, .inl f)) H) (hA : A a) (hS : va_S A H0 H locs) (hin : vp_in i n) (hdg : decode cc pc = .ok (.iastore, 1))
    (kk : ∀ (H1 : Heap) (locs1 : List Loc), va_at D cl (a, .inl (cA, n, .inl (upd f i.toNatClampNeg x))) H1 → H1.size = H.size → (∀ q : Nat, q ≠ a → H1[q]? = H[q]?) → va_S A H0 H1 locs1 → W p l e R s m args below meth c H1 locs1 cells slots Q (F0 m (pc + 1) lsC rest)) : W p l e R s m args below meth c H locs cells slots Q (F0 m pc lsC (.int x :: .int i :: .ref a :: rest)) := by
  refine W.iast hexec hb ha (hAr n (fun j => .int (f j))) (fun q => by cases q) (by show ¬ (i < 0 ∨ (arrV _ _ _).slots.size ≤ _); rw [arrV_size]; exact hin) rfl rfl hdg fun H1 e z oq => ?_
  refine kk H1 _ ?_ z oq (hS.put z oq hA)
  show H1[a]? = some (vp_cell _ _)
  rw [e]
  rw [vp_cell_i, vp_cell_i, arrV_store]
  congr 2
  funext q
  by_cases hq : q = i.toNatClampNeg
  · subst hq
    simp [updV, upd]
  · simp [updV, upd, hq]
theorem x_zast (hexec : p.tables.exec = Jvm.exec) (hb : c.code = cc) (hAr : ArrOfT s cA .boolean) (ha : va_at D cl (a, .inl (cA, n, .inl f)) H) (hA : A a) (hS : va_S A H0 H locs) (hin : vp_in i n) (hdg : decode cc pc = .ok (.bastore, 1))
    (kk : ∀ (H1 : Heap) (locs1 : List Loc), va_at D cl (a, .inl (cA, n, .inl (upd f i.toNatClampNeg (vp_nar .boolean x)))) H1 → H1.size = H.size → (∀ q : Nat, q ≠ a → H1[q]? = H[q]?) → va_S A H0 H1 locs1 → W p l e R s m args below meth c H1 locs1 cells slots Q (F0 m (pc + 1) lsC rest)) : W p l e R s m args below meth c H locs cells slots Q (F0 m pc lsC (.int x :: .int i :: .ref a :: rest)) := by
  refine W.zast hexec hb ha (hAr n (fun j => .int (f j))) (fun q => by cases q) (by show ¬ (i < 0 ∨ (arrV _ _ _).slots.size ≤ _); rw [arrV_size]; exact hin) rfl rfl hdg fun H1 e z oq => ?_
  refine kk H1 _ ?_ z oq (hS.put z oq hA)
  show H1[a]? = some (vp_cell _ _)
  rw [e]
  rw [vp_cell_i, vp_cell_i, arrV_store]
  congr 2
  funext q
  by_cases hq : q = i.toNatClampNeg
  · subst hq
    simp [updV, upd, vp_nar]
    try rfl
  · simp [updV, upd, hq]
theorem x_cast (hexec : p.tables.exec = Jvm.exec) (hb : c.code = cc) (hAr : ArrOfT s cA .char) (ha : va_at D cl (a, .inl (cA, n, .inl f)) H) (hA : A a) (hS : va_S A H0 H locs) (hin : vp_in i n) (hdg : decode cc pc = .ok (.castore, 1))
    (kk : ∀ (H1 : Heap) (locs1 : List Loc), va_at D cl (a, .inl (cA, n, .inl (upd f i.toNatClampNeg (vp_nar .char x)))) H1 → H1.size = H.size → (∀ q : Nat, q ≠ a → H1[q]? = H[q]?) → va_S A H0 H1 locs1 → W p l e R s m args below meth c H1 locs1 cells slots Q (F0 m (pc + 1) lsC rest)) : W p l e R s m args below meth c H locs cells slots Q (F0 m pc lsC (.int x :: .int i :: .ref a :: rest)) := by
  refine W.cast hexec hb ha (hAr n (fun j => .int (f j))) (fun q => by cases q) (by show ¬ (i < 0 ∨ (arrV _ _ _).slots.size ≤ _); rw [arrV_size]; exact hin) rfl rfl hdg fun H1 e z oq => ?_
  refine kk H1 _ ?_ z oq (hS.put z oq hA)
  show H1[a]? = some (vp_cell _ _)
  rw [e]
  rw [vp_cell_i, vp_cell_i, arrV_store]
  congr 2
  funext q
  by_cases hq : q = i.toNatClampNeg
  · subst hq
    simp [updV, upd, vp_nar]
    try rfl
  · simp [updV, upd, hq]
end
theorem eTy_K {κ : Nat} (hK : va_K E.2.2.2.1 aCl (eTy E) s) (h8 : 8 ≤ κ) (h13 : κ ≤ 13) {ty : FieldType} (hty : (if κ = 8 then FieldType.char else if κ = 9 then .int else if κ = 10 then .boolean else .object (aEl κ)) = ty) : ArrOfT s (E.2.2.2.2.1 κ) ty ∧ va_RA s (E.2.2.2.2.1 κ) ty := hty ▸ hK.2 (κ - 8) _ (eTy_at h8 h13)
/-- storing a number in a row -/
theorem sx_ast {κ a : Nat} {i x y : Int32} {r : List Value} {ty : FieldType} (h8 : 8 ≤ κ) (h11 : κ < 11) (hty : (if κ = 8 then FieldType.char else if κ = 9 then .int else if κ = 10 then .boolean else .object (aEl κ)) = ty) (hC : eCx E M p s m args meth c) (hI : eIn E M s ls (.int x :: .int i :: .ref a :: r) lsC σ H locs) (hp : aSt1 κ a i y (pc + 1) ls r σ = some (.inl (pc', ls', st', σ')))
    (row : ∀ (ha : va_at E.2.2.2.1 aCl (eAd E a, .inl (E.2.2.2.2.1 κ, (σ.1 a).2, .inl (σ.2.1 a))) H) (hAr : ArrOfT s (E.2.2.2.2.1 κ) ty) (hA : eA E (eAd E a)) (hin : vp_in i (σ.1 a).2) (kk : ∀ (H1 : Heap) (locs1 : List Loc), va_at E.2.2.2.1 aCl (eAd E a, .inl (E.2.2.2.2.1 κ, (σ.1 a).2, .inl (upd (σ.2.1 a) i.toNatClampNeg y))) H1 → H1.size = H.size → (∀ q : Nat, q ≠ eAd E a → H1[q]? = H[q]?) → va_S (eA E) s.heap H1 locs1 → W p l e R s m args below meth c H1 locs1 cells slots Q (F0 m (pc + 1) lsC (r.map (eCv E)))), W p l e R s m args below meth c H locs cells slots Q (F0 m pc lsC (.int x :: .int i :: .ref (eAd E a) :: r.map (eCv E))))
    (kk : eK E M p l e R s m args below meth c Q cells slots pc' ls' st' σ') : W p l e R s m args below meth c H locs cells slots Q (F0 m pc lsC ((Value.int x :: .int i :: .ref a :: r).map (eCv E))) := by
  obtain ⟨hx, hb, hr, hml, hown, hts, hlk, hin, hK, hSt, hbase, hM⟩ := id hC
  unfold aSt1 at hp
  split at hp
  case isFalse => cases hp
  rename_i hg
  obtain ⟨ha, hix, h16⟩ := hg
  obtain ⟨rfl, rfl, rfl, rfl⟩ := nx_inv hp
  obtain ⟨-, hlt, hat, hcv⟩ := eHo_at hI.1 hSt ha (by omega) (Or.inr h16)
  rw [eCe_int ha h8 h11] at hat
  rw [List.map_cons, List.map_cons, List.map_cons, hcv]
  refine row hat (eTy_K hK h8 (by omega) hty).1 (eAd_A h16) (aIx_in hix) fun H1 locs1 hat1 z oq hS1 => ?_
  refine kk H1 locs1 lsC ⟨eHo_upd hI.1 h16 rfl rfl (fun k hk => aW_ne hk) (fun _ _ => rfl) z oq ?_, hS1, hI.2.2.1, cat_tl (cat_tl (cat_tl hI.2.2.2))⟩
  rw [eCe_int (κ := κ) (show ((((σ.1, aW σ.2.1 a i.toNatClampNeg y, σ.2.2.1, σ.2.2.2) : HS).1 a).1 = κ) from ha) h8 h11]
  have e : aW σ.2.1 a i.toNatClampNeg y a = upd (σ.2.1 a) i.toNatClampNeg y := by
    funext j
    simp [aW, upd]
  dsimp only
  rw [e]
  exact hat1
/-- reading a number of a row -/
theorem sx_ald {κ a : Nat} {i : Int32} {r : List Value} {ty : FieldType} (h8 : 8 ≤ κ) (h11 : κ < 11) (hty : (if κ = 8 then FieldType.char else if κ = 9 then .int else if κ = 10 then .boolean else .object (aEl κ)) = ty) (hC : eCx E M p s m args meth c) (hI : eIn E M s ls (.int i :: .ref a :: r) lsC σ H locs) (ha : (σ.1 a).1 = κ) (hix : aIx i (σ.1 a).2) (h9 : κ ≠ 9 ∨ 16 ≤ a)
    (row : ∀ (hat : va_P E.2.2.2.1 aCl [(eAd E a, .inl (E.2.2.2.2.1 κ, (σ.1 a).2, .inl (σ.2.1 a)))] H) (ht : (eTy E)[κ - 8]? = some (E.2.2.2.2.1 κ, ty)) (hin : vp_in i (σ.1 a).2) (k : W p l e R s m args below meth c H locs cells slots Q (F0 m (pc + 1) lsC (.int (σ.2.1 a i.toNatClampNeg) :: r.map (eCv E)))), W p l e R s m args below meth c H locs cells slots Q (F0 m pc lsC (.int i :: .ref (eAd E a) :: r.map (eCv E))))
    (kk : eK E M p l e R s m args below meth c Q cells slots (pc + 1) ls (.int (σ.2.1 a i.toNatClampNeg) :: r) σ) : W p l e R s m args below meth c H locs cells slots Q (F0 m pc lsC ((Value.int i :: .ref a :: r).map (eCv E))) := by
  obtain ⟨hx, hb, hr, hml, hown, hts, hlk, hin, hK, hSt, hbase, hM⟩ := id hC
  obtain ⟨h16, hlt, hat, hcv⟩ := eHo_at hI.1 hSt ha (by omega) h9
  rw [eCe_int ha h8 h11] at hat
  rw [List.map_cons, List.map_cons, hcv]
  refine row (eP1 hat) ((eTy_at h8 (by omega)).trans (by rw [hty])) (aIx_in hix) ?_
  exact kk H locs lsC (eIn_st hI rfl rfl (cat_cons rfl (cat_tl (cat_tl hI.2.2.2))))
theorem st_const {a : Nat} (hI : eHo E σ H) (hlt : a < 16) : (σ.1 a) = E.2.2.2.2.2.1 a ∧ σ.2.1 a = E.2.2.2.2.2.2.1 a := ⟨(hI.2.2.1 a hlt).1, (hI.2.2.1 a hlt).2.1⟩
theorem cv_const {a : Nat} (hlt : a < 16) (hne : a ≠ 14) : eCv E (.ref a) = .ref (E.1 a) := by
  show va_rf (eAo E a) = _
  unfold eAo eAd
  rw [if_neg hne, if_pos hlt]
  rfl
theorem sx_iald {a : Nat} {i : Int32} {r : List Value} (hC : eCx E M p s m args meth c) (hI : eIn E M s ls (.int i :: .ref a :: r) lsC σ H locs) (ha : (σ.1 a).1 = 9) (hix : aIx i (σ.1 a).2) (hd : decode (aBy M) pc = .ok (.iaload, 1))
    (kk : eK E M p l e R s m args below meth c Q cells slots (pc + 1) ls (.int (σ.2.1 a i.toNatClampNeg) :: r) σ) : W p l e R s m args below meth c H locs cells slots Q (F0 m pc lsC ((Value.int i :: .ref a :: r).map (eCv E))) := by
  obtain ⟨hx, hb, hr, hml, hown, hts, hlk, hin, hK, hSt, hbase, hM⟩ := id hC
  rcases Nat.lt_or_ge a 16 with hlt | h16
  · obtain ⟨e1, e2⟩ := st_const hI.1 hlt
    have hne : a ≠ 14 := by
      intro q
      subst q
      rw [e1, hSt.2.1] at ha
      omega
    rcases hSt.1 a hlt with g | g | g | g
    · rw [List.map_cons, List.map_cons, cv_const hlt hne]
      refine va_ti hx hb g.2 hI.2.1 (aIx_in (by rw [← e1]; exact hix)) rfl hd ?_
      have := kk H locs lsC (eIn_st hI rfl rfl (cat_cons rfl (cat_tl (cat_tl hI.2.2.2))))
      rw [List.map_cons, e2] at this
      exact this
    · rw [e1] at ha; omega
    · rw [e1] at ha; omega
    · rw [e1] at ha; omega
  · exact sx_ald (by decide) (by decide) rfl hC hI ha hix (Or.inr h16) (fun hat ht hin k => va_iald hx hb hK hat 0 1 rfl ht hin hd k) kk
theorem sx_bald {a : Nat} {i : Int32} {r : List Value} (hC : eCx E M p s m args meth c) (hI : eIn E M s ls (.int i :: .ref a :: r) lsC σ H locs) (ha : (σ.1 a).1 = 10 ∨ (σ.1 a).1 = 15) (hix : aIx i (σ.1 a).2) (hd : decode (aBy M) pc = .ok (.baload, 1))
    (kk : eK E M p l e R s m args below meth c Q cells slots (pc + 1) ls (.int (σ.2.1 a i.toNatClampNeg) :: r) σ) : W p l e R s m args below meth c H locs cells slots Q (F0 m pc lsC ((Value.int i :: .ref a :: r).map (eCv E))) := by
  obtain ⟨hx, hb, hr, hml, hown, hts, hlk, hin, hK, hSt, hbase, hM⟩ := id hC
  rcases ha with ha | ha
  · exact sx_ald (by decide) (by decide) rfl hC hI ha hix (Or.inl (by decide)) (fun hat ht hin k => va_zald hx hb hK hat 0 2 rfl ht hin hd k) kk
  · have hlt : a < 16 := by
      rcases Nat.lt_or_ge a 16 with q | q
      · exact q
      · rcases Nat.lt_or_ge a σ.2.2.2.1 with q2 | q2
        · have := (hI.1.2.2.2.2 a q q2).1; omega
        · have := hI.1.2.2.2.1 a q2; rw [this] at ha; simp at ha
    obtain ⟨e1, e2⟩ := st_const hI.1 hlt
    have hne : a ≠ 14 := by
      intro q
      subst q
      rw [e1, hSt.2.1] at ha
      omega
    rcases hSt.1 a hlt with g | g | g | g
    · rw [e1] at ha; omega
    · rw [List.map_cons, List.map_cons, cv_const hlt hne]
      refine va_tb hx hb g.2 hI.2.1 (aIx_in (by rw [← e1]; exact hix)) rfl hd ?_
      have := kk H locs lsC (eIn_st hI rfl rfl (cat_cons rfl (cat_tl (cat_tl hI.2.2.2))))
      rw [List.map_cons, e2] at this
      exact this
    · rw [e1] at ha; omega
    · rw [e1] at ha; omega
theorem sx_alen {a : Nat} {r : List Value} (hC : eCx E M p s m args meth c) (hI : eIn E M s ls (.ref a :: r) lsC σ H locs) (ha : (8 ≤ (σ.1 a).1 ∧ (σ.1 a).1 ≤ 13) ∨ (σ.1 a).1 = 15) (hd : decode (aBy M) pc = .ok (.arraylength, 1))
    (kk : eK E M p l e R s m args below meth c Q cells slots (pc + 1) ls (.int (Int32.ofNat (σ.1 a).2) :: r) σ) : W p l e R s m args below meth c H locs cells slots Q (F0 m pc lsC ((Value.ref a :: r).map (eCv E))) := by
  obtain ⟨hx, hb, hr, hml, hown, hts, hlk, hin, hK, hSt, hbase, hM⟩ := id hC
  have k0 := kk H locs lsC (eIn_st hI rfl rfl (cat_cons rfl (cat_tl hI.2.2.2)))
  rw [List.map_cons] at k0 ⊢
  rcases Nat.lt_or_ge a 16 with hlt | h16
  · obtain ⟨e1, e2⟩ := st_const hI.1 hlt
    have hne : a ≠ 14 := by
      intro q
      subst q
      rw [e1, hSt.2.1] at ha
      omega
    rw [cv_const hlt hne]
    rcases hSt.1 a hlt with g | g | g | g
    · exact va_tlen hx hb g.2 hI.2.1 (by rw [e1]) hd k0
    · exact va_tlen hx hb g.2 hI.2.1 (by rw [e1]) hd k0
    · rw [e1] at ha; omega
    · rw [e1] at ha; omega
  · have hk : 8 ≤ (σ.1 a).1 ∧ (σ.1 a).1 ≤ 13 := by
      rcases ha with ha | ha
      · exact ha
      · rcases Nat.lt_or_ge a σ.2.2.2.1 with q2 | q2
        · have := (hI.1.2.2.2.2 a h16 q2).1; omega
        · have := hI.1.2.2.2.1 a q2; rw [this] at ha; simp at ha
    obtain ⟨-, hlt, hat, hcv⟩ := eHo_at hI.1 hSt rfl hk.2 (Or.inr h16)
    rw [hcv]
    by_cases h11 : (σ.1 a).1 < 11
    · rw [eCe_int rfl hk.1 h11] at hat
      exact va_alen hx hb hK (eP1 hat) 0 ((σ.1 a).1 - 8) rfl (eTy_at hk.1 hk.2) rfl hd k0
    · rw [eCe_ref rfl (by omega)] at hat
      exact va_alen hx hb hK (eP1 hat) 0 ((σ.1 a).1 - 8) rfl (eTy_at hk.1 hk.2) rfl hd k0
theorem sx_aald {a : Nat} {i : Int32} {r : List Value} (hC : eCx E M p s m args meth c) (hI : eIn E M s ls (.int i :: .ref a :: r) lsC σ H locs) (ha : 11 ≤ (σ.1 a).1 ∧ (σ.1 a).1 ≤ 13) (hix : aIx i (σ.1 a).2) (hd : decode (aBy M) pc = .ok (.aaload, 1))
    (kk : eK E M p l e R s m args below meth c Q cells slots (pc + 1) ls (va_rf (σ.2.2.1 a i.toNatClampNeg) :: r) σ) : W p l e R s m args below meth c H locs cells slots Q (F0 m pc lsC ((Value.int i :: .ref a :: r).map (eCv E))) := by
  obtain ⟨hx, hb, hr, hml, hown, hts, hlk, hin, hK, hSt, hbase, hM⟩ := id hC
  obtain ⟨h16, hlt, hat, hcv⟩ := eHo_at hI.1 hSt rfl ha.2 (Or.inl (by omega))
  rw [eCe_ref rfl ha.1] at hat
  have k0 := kk H locs lsC (eIn_st hI rfl rfl (cat_cons (vrf_cat _) (cat_tl (cat_tl hI.2.2.2))))
  rw [List.map_cons, eCv_rf] at k0
  rw [List.map_cons, List.map_cons, hcv]
  exact va_aldq hx hb hK (eP1 hat) 0 ((σ.1 a).1 - 8) rfl ((eTy_at (by omega) ha.2).trans (by rw [if_neg (by omega), if_neg (by omega), if_neg (by omega)])) (aIx_in hix) hd k0
section
variable {cc : ByteArray} {rest : List Value} {D : va_G} {cl : List vw_C} {A : Nat → Prop} {a v ci : Nat} {H0 : Heap} {cA : ClassId} {n : Nat} {f : Nat → Option Nat} {i : Int32} {C : String} {w : vw_C} {vs : List Value}
theorem x_aast (hexec : p.tables.exec = Jvm.exec) (hb : c.code = cc) (hRA : va_RA s cA (.object w.1)) (hcl : ClassAt s w.1 (D.1 ci)) (hc : cl[ci]? = some w) (ha : va_at D cl (a, .inl (cA, n, .inr (.inr (.inr (.inr f))))) H) (hv : va_at D cl (v, .inr (ci, vs)) H) (hA : A a) (hS : va_S A H0 H locs) (hin : vp_in i n) (hdg : decode cc pc = .ok (.aastore, 1))
    (kk : ∀ (H1 : Heap) (locs1 : List Loc), va_at D cl (a, .inl (cA, n, .inr (.inr (.inr (.inr (va_up f i.toNatClampNeg (some v))))))) H1 → H1.size = H.size → (∀ q : Nat, q ≠ a → H1[q]? = H[q]?) → va_S A H0 H1 locs1 → W p l e R s m args below meth c H1 locs1 cells slots Q (F0 m (pc + 1) lsC rest)) : W p l e R s m args below meth c H locs cells slots Q (F0 m pc lsC (.ref v :: .int i :: .ref a :: rest)) := by
  have hlt : i.toNatClampNeg < n := Nat.not_le.mp fun q => hin (Or.inr q)
  have h0 : ¬ i < 0 := fun q => hin (Or.inl q)
  obtain ⟨r', hr', cellV, g1, g2, g3, -⟩ := hv
  obtain ⟨kA, comp, k1, k2, k3, -⟩ := hRA
  have hcomp : comp = D.1 ci := Option.some.inj (k3.symm.trans hcl.1)
  subst hcomp
  have hcls := hcl
  obtain ⟨kC, hkC, -⟩ := hcl.2
  refine W.aast hexec hb ha (fun q h => by cases h) (fun h => by cases h) k1 k2 rfl hkC ⟨h0, by show _ < (arrV _ _ _).slots.size; rw [arrV_size]; exact hlt⟩ g1 (fun q h => by rw [g3] at h; cases h) (by rw [g2]; exact hkC) (by rw [g2]; exact va_assign hcls) rfl rfl hdg fun H1 e z oq => ?_
  refine kk H1 _ ?_ z oq (hS.put z oq hA)
  show H1[a]? = some (vp_cell _ _)
  rw [e]
  rw [vp_cell_q, vp_cell_q, arrV_store]
  congr 2
  funext q
  by_cases hq : q = i.toNatClampNeg
  · subst hq
    simp [updV, va_up, va_rf]
  · simp [updV, va_up, hq]
theorem x_aastN (hexec : p.tables.exec = Jvm.exec) (hb : c.code = cc) (hAr : ArrOfT s cA (.object C)) (ha : va_at D cl (a, .inl (cA, n, .inr (.inr (.inr (.inr f))))) H) (hA : A a) (hS : va_S A H0 H locs) (hin : vp_in i n) (hdg : decode cc pc = .ok (.aastore, 1))
    (kk : ∀ (H1 : Heap) (locs1 : List Loc), va_at D cl (a, .inl (cA, n, .inr (.inr (.inr (.inr (va_up f i.toNatClampNeg none)))))) H1 → H1.size = H.size → (∀ q : Nat, q ≠ a → H1[q]? = H[q]?) → va_S A H0 H1 locs1 → W p l e R s m args below meth c H1 locs1 cells slots Q (F0 m (pc + 1) lsC rest)) : W p l e R s m args below meth c H locs cells slots Q (F0 m pc lsC (.null :: .int i :: .ref a :: rest)) := by
  refine va_WaastN (C := C) hexec hb ha (hAr n (fun j => va_rf (f j))) (fun h => by cases h) (by show ¬ (i < 0 ∨ (arrV _ _ _).slots.size ≤ _); rw [arrV_size]; exact hin) rfl rfl hdg fun H1 e z oq => ?_
  refine kk H1 _ ?_ z oq (hS.put z oq hA)
  show H1[a]? = some (vp_cell _ _)
  rw [e]
  rw [vp_cell_q, vp_cell_q, arrV_store]
  congr 2
  funext q
  by_cases hq : q = i.toNatClampNeg
  · subst hq
    simp [updV, va_up, va_rf]
  · simp [updV, va_up, hq]
end
theorem aR_bind {R : Nat → Nat → Option Nat} {a k : Nat} {v : Option Nat} {g : Nat → Option Nat} : (fun j => (aR R a k v a j).bind g) = va_up (fun j => (R a j).bind g) k (v.bind g) := by
  funext j
  simp only [aR, va_up, if_true]
  by_cases h : j = k
  · rw [if_pos h, if_pos h]
  · rw [if_neg h, if_neg h]
theorem sx_aast {a : Nat} {i : Int32} {v : Value} {o : Option Nat} {r : List Value} (hC : eCx E M p s m args meth c) (hI : eIn E M s ls (v :: .int i :: .ref a :: r) lsC σ H locs) (ha : 11 ≤ (σ.1 a).1 ∧ (σ.1 a).1 ≤ 13) (hix : aIx i (σ.1 a).2) (hv : v = va_rf o) (ho : ∀ b, o = some b → (σ.1 b).1 = aOfK (σ.1 a).1) (hd : decode (aBy M) pc = .ok (.aastore, 1))
    (kk : eK E M p l e R s m args below meth c Q cells slots (pc + 1) ls r (σ.1, σ.2.1, aR σ.2.2.1 a i.toNatClampNeg o, σ.2.2.2)) : W p l e R s m args below meth c H locs cells slots Q (F0 m pc lsC ((v :: Value.int i :: .ref a :: r).map (eCv E))) := by
  obtain ⟨hx, hb, hr, hml, hown, hts, hlk, hin, hK, hSt, hbase, hM⟩ := id hC
  obtain ⟨h16, hlt, hat, hcv⟩ := eHo_at hI.1 hSt rfl ha.2 (Or.inl (by omega))
  rw [eCe_ref rfl ha.1] at hat
  have hT := eTy_K (ty := .object (aEl (σ.1 a).1)) hK (by omega) ha.2 (by rw [if_neg (by omega), if_neg (by omega), if_neg (by omega)])
  have fin : ∀ (o2 : Option Nat), o2 = o.bind (eAo E) → ∀ (H1 : Heap) (locs1 : List Loc), va_at E.2.2.2.1 aCl (eAd E a, .inl (E.2.2.2.2.1 (σ.1 a).1, (σ.1 a).2, .inr (.inr (.inr (.inr (va_up (fun j => (σ.2.2.1 a j).bind (eAo E)) i.toNatClampNeg o2)))))) H1 → H1.size = H.size → (∀ q : Nat, q ≠ eAd E a → H1[q]? = H[q]?) → va_S (eA E) s.heap H1 locs1 → W p l e R s m args below meth c H1 locs1 cells slots Q (F0 m (pc + 1) lsC (r.map (eCv E))) := by
    intro o2 ho2 H1 locs1 hat1 z oq hS1
    refine kk H1 locs1 lsC ⟨eHo_upd hI.1 h16 rfl rfl (fun k hk => rfl) (fun k hk => aR_ne hk) z oq ?_, hS1, hI.2.2.1, cat_tl (cat_tl (cat_tl hI.2.2.2))⟩
    rw [eCe_ref (κ := (σ.1 a).1) (show ((((σ.1, σ.2.1, aR σ.2.2.1 a i.toNatClampNeg o, σ.2.2.2) : HS).1 a).1 = (σ.1 a).1) from rfl) ha.1]
    dsimp only
    rw [aR_bind, ← ho2]
    exact hat1
  subst hv
  rw [List.map_cons, List.map_cons, List.map_cons, hcv, eCv_rf]
  cases o with
  | none => exact x_aastN hx hb hT.1 hat (eAd_A h16) hI.2.1 (aIx_in hix) hd (fin none rfl)
  | some b =>
    have hbk := ho b rfl
    have hb8 : aOfK (σ.1 a).1 < 8 := by unfold aOfK; split; decide; split; decide; decide
    obtain ⟨b16, blt, bat, bcv⟩ := eHo_at hI.1 hSt hbk (by omega) (Or.inl (by omega))
    rw [eCe_obj hbk hb8] at bat
    have hbo : eAo E b = some (eAd E b) := by unfold eAo; rw [if_neg (by omega)]
    have hcl := aCl_at (aOfK (σ.1 a).1) hb8
    have := x_aast (D := E.2.2.2.1) (w := (aCs (aOfK (σ.1 a).1), aTT (aOfK (σ.1 a).1), aNf (aOfK (σ.1 a).1))) hx hb hT.2 (hK.1 _ _ hcl).2 hcl hat bat (eAd_A h16) hI.2.1 (aIx_in hix) hd (fin (some (eAd E b)) (by rw [Option.bind_some, hbo]))
    rw [Option.bind_some, hbo]
    exact this
/-- a new cell -/
theorem vcell_new {κ n : Nat} {cA : ClassId} : eCe E (aNc κ n σ) σ.2.2.2.1 = if κ < 8 then .inr (κ, (List.range (aNf κ)).map (fun j => if aGet 9 (aGet [] aFk κ) j = 1 then .null else .int 0)) else if κ < 11 then .inl (E.2.2.2.2.1 κ, n, .inl (fun _ => 0)) else .inl (E.2.2.2.2.1 κ, n, .inr (.inr (.inr (.inr (fun _ => none))))) := by
  have e1 : (aNc κ n σ).1 σ.2.2.2.1 = (κ, n) := by simp [aNc]
  have e2 : (aNc κ n σ).2.1 σ.2.2.2.1 = fun _ => 0 := by funext j; simp [aNc]
  have e3 : (aNc κ n σ).2.2.1 σ.2.2.2.1 = fun _ => none := by funext j; simp [aNc]
  unfold eCe eFs
  rw [e1, e2, e3]
  dsimp only
  have e4 : (eFv E (aNc κ n σ) κ σ.2.2.2.1) = fun j => if aGet 9 (aGet [] aFk κ) j = 1 then .null else .int 0 := by
    funext j
    unfold eFv
    rw [e2, e3]
    rfl
  rw [e4]
  rfl
theorem top_nc {κ n : Nat} : (aNc κ n σ).2.2.2 = (σ.2.2.2.1 + 1, σ.2.2.2.2 + n) := rfl
theorem sx_newarr {κ N : Nat} {i : Int32} {r : List Value} {at_ : ArrayType} {ty : FieldType} (h8 : 8 ≤ κ) (h11 : κ < 11) (hty : (if κ = 8 then FieldType.char else if κ = 9 then .int else if κ = 10 then .boolean else .object (aEl κ)) = ty) (hat : newarray.typeOf at_ = ty) (hdef : defaultValue ty = .int 0) (hcb : componentBytes ty ≤ 8) (hra : va_RA s (E.2.2.2.2.1 κ) ty = (s.vm.findClass ("[" ++ ty.toString) = some (E.2.2.2.2.1 κ))) (hmem : Cond.arrayClass ty ∈ aTb) (hC : eCx E M p s m args meth c) (hI : eIn E M s ls (.int i :: r) lsC σ H locs) (hi : ¬ i < 0) (hN : i.toNatClampNeg ≤ 5000) (hNN : i.toNatClampNeg = N) (hd : decode (aBy M) pc = .ok (.newarray at_, 2)) (hc1 : cells + 1 ≤ R.cells) (hc2 : slots + N ≤ R.slots)
    (kk : eK E M p l e R s m args below meth c Q (cells + 1) (slots + N) (pc + 2) ls (.ref σ.2.2.2.1 :: r) (aNc κ N σ)) : W p l e R s m args below meth c H locs cells slots Q (F0 m pc lsC ((Value.int i :: r).map (eCv E))) := by
  obtain ⟨hx, hb, hr, hml, hown, hts, hlk, hin, hK, hSt, hbase, hM⟩ := id hC
  have hT := (eTy_K hK h8 (by omega) hty).2
  rw [hra] at hT
  subst hat
  rw [List.map_cons]
  refine va_newaK (h := H.size) hx hb (hts _ hmem) rfl hd rfl hi hNN (by have : N ≤ 5000 := by omega
                                                                         calc N * componentBytes (newarray.typeOf at_) ≤ 5000 * 8 := Nat.mul_le_mul this hcb
                                                                           _ ≤ 536870912 := by decide) hc1 hc2 rfl fun H1 cA e1 z1 o1 hAr hNm => ?_
  have hcA : cA = E.2.2.2.2.1 κ := Option.some.inj (hNm.symm.trans hT)
  subst hcA
  obtain ⟨g1, g2⟩ := eHo_new (κ := κ) (n := N) hI.1 (by omega) z1 o1 (by
    rw [vcell_new (cA := 0), if_neg (by omega), if_pos h11]
    show H1[H.size]? = some (vp_cell _ _)
    rw [e1, hdef]
    rfl)
  have := kk H1 locs lsC ⟨g1, ⟨Nat.le_trans hI.2.1.1 (by omega), fun q h1 h2 => (o1 q (Nat.lt_of_lt_of_le h1 hI.2.1.1)).trans (hI.2.1.2.1 q h1 h2), hI.2.1.2.2⟩, hI.2.2.1, cat_cons rfl (cat_tl hI.2.2.2)⟩
  rw [List.map_cons, g2] at this
  exact this
theorem sx_anew {k κ : Nat} {i : Int32} {r : List Value} (hk : aLk aAl (aOw M) k = some κ) (hC : eCx E M p s m args meth c) (hI : eIn E M s ls (.int i :: r) lsC σ H locs) (hi : ¬ i < 0) (hN : i.toNatClampNeg ≤ 5000) (hd : decode (aBy M) pc = .ok (.anewarray k, 3)) (hc1 : cells + 1 ≤ R.cells) (hc2 : slots + i.toNatClampNeg ≤ R.slots)
    (kk : eK E M p l e R s m args below meth c Q (cells + 1) (slots + i.toNatClampNeg) (pc + 3) ls (.ref σ.2.2.2.1 :: r) (aNc κ i.toNatClampNeg σ)) : W p l e R s m args below meth c H locs cells slots Q (F0 m pc lsC ((Value.int i :: r).map (eCv E))) := by
  obtain ⟨hx, hb, hr, hml, hown, hts, hlk, hin, hK, hSt, hbase, hM⟩ := id hC
  have hme := aLk_mem hk
  have hκ := aA_ok _ hme
  dsimp only at hκ
  have hT := (eTy_K (ty := .object (aEl κ)) hK (by omega) hκ.2 (by rw [if_neg (by omega), if_neg (by omega), if_neg (by omega)])).2
  obtain ⟨kA0, comp0, t1, t2, t3, t4⟩ := hT
  rw [List.map_cons]
  refine W.anew hx hb hown (hts _ (aA_w _ (List.mem_map.mpr ⟨_, hme, rfl⟩))) (va_AO.use (hSt.2.2.2.2.1 κ hκ.1 hκ.2)) rfl hd rfl hi (by omega) hc1 hc2 fun cA kA comp f1 f2 f3 f4 => ?_
  have hcA : cA = E.2.2.2.2.1 κ := Option.some.inj (f1.symm.trans t4)
  subst hcA
  generalize hH1 : H.push ({ cls := E.2.2.2.2.1 κ, slots := Array.replicate i.toNatClampNeg .null, vm := .none } : Cell) = H1
  have z1 : H1.size = H.size + 1 := by rw [← hH1, Array.size_push]
  have e1 : H1[H.size]? = some (arrV (E.2.2.2.2.1 κ) i.toNatClampNeg (fun _ => .null)) := by rw [← hH1, Array.getElem?_push_size, ← arrV_new]
  have o1 : ∀ q : Nat, q < H.size → H1[q]? = H[q]? := fun q hq => by rw [← hH1, Array.getElem?_push, if_neg (Nat.ne_of_lt hq)]
  obtain ⟨g1, g2⟩ := eHo_new (κ := κ) (n := i.toNatClampNeg) hI.1 hκ.2 z1 o1 (by
    rw [vcell_new (cA := 0), if_neg (by omega), if_neg (by omega)]
    show H1[H.size]? = some (vp_cell _ _)
    rw [e1]
    rfl)
  have := kk H1 locs lsC ⟨g1, ⟨Nat.le_trans hI.2.1.1 (by omega), fun q h1 h2 => (o1 q (Nat.lt_of_lt_of_le h1 hI.2.1.1)).trans (hI.2.1.2.1 q h1 h2), hI.2.1.2.2⟩, hI.2.2.1, cat_cons rfl (cat_tl hI.2.2.2)⟩
  rw [List.map_cons, g2] at this
  exact this
theorem aN_def : ∀ k, k < 8 → ∀ j, j < aNf k → defaultValue (aYY k j) = if aGet 9 (aGet [] aFk k) j = 1 then .null else .int 0 := by decide +kernel
theorem sx_new {k κ : Nat} (hk : aLk aNl (aOw M) k = some κ) (hC : eCx E M p s m args meth c) (hI : eIn E M s ls st lsC σ H locs) (hd : decode (aBy M) pc = .ok (.new k, 3)) (hc1 : cells + 1 ≤ R.cells) (hc2 : slots + aNf κ ≤ R.slots)
    (kk : eK E M p l e R s m args below meth c Q (cells + 1) (slots + aNf κ) (pc + 3) ls (.ref σ.2.2.2.1 :: st) (aNc κ (aNf κ) σ)) : W p l e R s m args below meth c H locs cells slots Q (F0 m pc lsC (st.map (eCv E))) := by
  obtain ⟨hx, hb, hr, hml, hown, hts, hlk, hin, hK, hSt, hbase, hM⟩ := id hC
  have hme := aLk_mem hk
  have h8 := aN_ok _ hme
  dsimp only at h8
  have hcl := aCl_at κ h8
  have hKn := hK.1 κ _ hcl
  have wd : ∀ w ∈ [Cond.classLink (aCs (aOw M)) k (aCs κ), Cond.instantiable (aCs κ) (aNf κ), Cond.initialized (aCs κ)], w.before args s = true := fun w hw => hts w (aN_w _ (List.mem_flatMap.mpr ⟨_, hme, hw⟩))
  refine W.newcK hx hb hown (wd _ (by simp)) (wd _ (by simp)) (wd _ (by simp)) rfl hd hc1 hc2 hKn.2.1 rfl fun H1 kC hkC e1 z1 o1 => ?_
  obtain ⟨g1, g2⟩ := eHo_new (κ := κ) (n := aNf κ) hI.1 (by omega) z1 o1 (by
    rw [vcell_new (cA := 0), if_pos h8]
    refine ⟨_, hcl, (u_born (aYY κ) hts (aC_w κ h8) hKn hkC e1 (aYY_ok κ h8)).to fun j hj => ?_⟩
    rw [aN_def κ h8 j hj]
    unfold vp_V
    rw [List.getD_eq_getElem?_getD, List.getElem?_map, List.getElem?_range hj]
    rfl)
  have := kk H1 locs lsC ⟨g1, ⟨Nat.le_trans hI.2.1.1 (by omega), fun q h1 h2 => (o1 q (Nat.lt_of_lt_of_le h1 hI.2.1.1)).trans (hI.2.1.2.1 q h1 h2), hI.2.1.2.2⟩, hI.2.2.1, cat_cons rfl hI.2.2.2⟩
  rw [List.map_cons, g2] at this
  exact this
end
