/-! calls -/
section
variable {E : aEnv} {M : Nat} {p : Program} {l : Launch} {e : Env} {R : Room} {s : State} {m : MethodId} {args : Array Value} {below : List Frame} {meth : Method} {c : Code} {H : Heap} {locs : List Loc} {cells slots : Nat} {Q : State → Prop}
variable {pc : Nat} {ls st : List Value} {lsC : Array Slot} {σ τ : HS} {pc' : Nat} {ls' st' : List Value} {σ' : HS} {v : Option Value}
def eSim (n : Nat) (l : Launch) : Prop := ∀ (E : aEnv) (d M pc : Nat) (ls st : List Value) (σ : HS) (v : Option Value) (τ : HS), aRun n d M pc ls st σ = some (v, τ) → ∀ (p : Program) (e : Env) (R : Room) (s : State) (m : MethodId) (args : Array Value) (below : List Frame) (meth : Method) (c : Code) (H : Heap) (locs : List Loc) (cells slots : Nat) (Q : State → Prop) (lsC : Array Slot), eCx E M p s m args meth c → eIn E M s ls st lsC σ H locs → d ≤ R.frames → 40 * d ≤ R.locals → cells + (τ.2.2.2.1 - σ.2.2.2.1) ≤ R.cells → slots + (τ.2.2.2.2 - σ.2.2.2.2) ≤ R.slots →
  (∀ (pc' : Nat) (lsC' : Array Slot) (st' : List Value) (H' : Heap) (locs' : List Loc), aRe M pc' st' v → eHo E τ H' → va_S (eA E) s.heap H' locs' → W p l e R s m args below meth c H' locs' (cells + (τ.2.2.2.1 - σ.2.2.2.1)) (slots + (τ.2.2.2.2 - σ.2.2.2.2)) Q (F0 m pc' lsC' (st'.map (eCv E)))) →
  W p l e R s m args below meth c H locs cells slots Q (F0 m pc lsC (st.map (eCv E)))
def ePc (E : aEnv) (as : List Value) (σ : HS) : Array Value → State → Prop := va_Pc (as.map (eCv E)) (fun U => eHo E σ U.heap ∧ va_K E.2.2.2.1 aCl (eTy E) U ∧ eSt E U U.heap)
def eQc (E : aEnv) (v : Option Value) (τ : HS) : Array Value → State → Outcome → State → Prop := fun _ st oc t => oc = .returned (v.map (eCv E)) ∧ eHo E τ t.heap ∧ va_F (eA E) st t
theorem eSt_mv {u U : State} {H H1 : Heap} (h : eSt E u H) (hvm : u.vm.Alike U.vm) (hR : ∀ (own : String) (k : Nat) (tx : String) (a : Nat), vk_R own k tx a u → vk_R own k tx a U) (hN : ∀ (a : String) (i : Nat) (x : MethodName) (h : String), va_Nw (.methodLinkNest a i x h) u → va_Nw (.methodLinkNest a i x h) U) (hq : ∀ a : Nat, a < H.size → ¬ eA E a → H1[a]? = H[a]?) : eSt E U H1 := by
  obtain ⟨h1, h2, h3, h4, h5, h6⟩ := h
  refine ⟨fun k hk => ?_, h2, fun e he => ((h3 e he).moved hvm).kept hq, fun e he => ?_, fun k k1 k2 => (h5 k k1 k2).moved hvm, fun e he hn => hN _ _ _ _ (h6 e he hn)⟩
  · rcases h1 k hk with g | g | g | g
    · exact Or.inl ⟨g.1, (g.2.moved hvm).kept hq⟩
    · exact Or.inr (Or.inl ⟨g.1, (g.2.moved hvm).kept hq⟩)
    · exact Or.inr (Or.inr (Or.inl ⟨g.1, (g.2.1.moved hvm).kept hq, (g.2.2.1.moved hvm).kept hq, (g.2.2.2.moved hvm).kept hq⟩))
    · exact Or.inr (Or.inr (Or.inr g))
  · obtain ⟨tx, g1, g2⟩ := h4 e he
    exact ⟨tx, g1, hR _ _ _ _ g2⟩
theorem eSt_to {U : State} (hSt : eSt E s s.heap) (hS : va_S (eA E) s.heap H locs) (hW : s.WarmedH U.vm) (hU : U.heap = H) : eSt E U U.heap := by
  rw [hU]
  exact eSt_mv hSt hW.alike (fun _ _ _ _ h => h.warm hW) (fun _ _ _ _ h => h.warmM hW) hS.2.1
theorem ePc_blind {as : List Value} : FrameBlind (ePc E as σ) := by
  intro a U g mk h
  obtain ⟨h1, h2, h3, h4⟩ := h
  exact ⟨h1, h2, va_K.moved (u := U) (U := U.calling g mk a) (Vm.Alike.refl U.vm) h3, eSt_mv (U := U.calling g mk a) h4 (Vm.Alike.refl U.vm) (fun _ _ _ _ h => h.same rfl) (fun _ _ _ _ h => va_Nw.same rfl rfl h) (fun _ _ _ => rfl)⟩
theorem args_mem {n : Nat} : ∀ (as : List Value) (k0 i : Nat), (∀ w ∈ as, w.category = 1) → (aLg (as ++ List.replicate n (.long 0)) i).category = 1 → (k0 + i, eCv E (aLg (as ++ List.replicate n (.long 0)) i)) ∈ lv_args k0 (as.map (eCv E))
  | [], k0, i, _, h => by
    exfalso
    rw [List.nil_append] at h
    have : ∀ (n i : Nat), aLg (List.replicate n (.long 0)) i = .long 0 := by
      intro n
      induction n with
      | zero => intro i; rfl
      | succ n ih => intro i; cases i with
        | zero => rfl
        | succ i => exact ih i
    rw [this] at h
    cases h
  | w :: r, k0, 0, hc, h => by
    show (k0 + 0, eCv E w) ∈ lv_args k0 (eCv E w :: r.map (eCv E))
    rw [lv_args]
    exact List.mem_cons_self
  | w :: r, k0, i + 1, hc, h => by
    show (k0 + (i + 1), eCv E (aLg (r ++ _) i)) ∈ lv_args k0 (eCv E w :: r.map (eCv E))
    rw [lv_args, if_neg (by rw [eCv_cat (hc w List.mem_cons_self)]; decide)]
    have := args_mem r (k0 + 1) i (fun x hx => hc x (List.mem_cons_of_mem _ hx)) h
    rw [show k0 + (i + 1) = k0 + 1 + i by omega]
    exact List.mem_cons_of_mem _ this
theorem sl_len : ∀ (vs : List Value), (∀ w ∈ vs, w.category = 1) → (lg_sl vs).length = vs.length
  | [], _ => rfl
  | w :: r, h => by
    have h1 := h w List.mem_cons_self
    have := sl_len r (fun x hx => h x (List.mem_cons_of_mem _ hx))
    unfold lg_sl at this ⊢
    rw [List.flatMap_cons, List.length_append, this, if_neg (by omega)]
    simp
    omega
theorem init_name {meth : Method} {k : Nat} (h : meth.name = (aNm k).name) (hi : aIn k = true) : meth.name = "<init>" := by
  rw [h]
  unfold aIn at hi
  exact eq_of_beq hi
theorem aQ1 {k : Nat} (hk : k < 252) : (aNm k).cls ≠ "java/lang/invoke/MethodHandle" ∧ (aNm k).cls ≠ "java/lang/invoke/VarHandle" := by
  have := aQ_1 k hk
  unfold aQk1 at this
  simp only [Bool.and_eq_true, decide_eq_true_eq] at this
  exact this
theorem aQ3 {k : Nat} (hk : k < 252) : (aNm k).cls = aCs (aOw k) := by
  have := aQ_3 k hk
  unfold aQk3 at this
  simpa using this
theorem aQ4 {k : Nat} (hk : k < 252) : aNL k ≤ 16 := by
  have := aQ_4 k hk
  unfold aQk4 at this
  simpa using this
/-- a method's contract out of its run -/
theorem eMet_of {n : Nat} (hs : eSim n l) {cal d : Nat} {as : List Value} (hcal : cal < 251) (hlen : as.length ≤ aNL cal) (hcat : ∀ w ∈ as, w.category = 1) (hrun : aRun n d cal 0 (as ++ List.replicate (aNL cal - as.length) (.long 0)) [] σ = some (v, τ)) :
    Met l (aNm cal) (aQc cal :: aTb) ({ frames := d, cells := τ.2.2.2.1 - σ.2.2.2.1, slots := τ.2.2.2.2 - σ.2.2.2.2, locals := 40 * d }) (ePc E as σ) (eQc E v τ) (τ.2.2.2.1 - σ.2.2.2.1) (τ.2.2.2.2 - σ.2.2.2.2) (eA E) := by
  have hpn : plainName (aNm cal).cls = true := aQ_2 cal (by omega)
  refine Met.ofW (cc := aBy cal) (maxL := aNL cal) (ret := aRt cal) hpn rfl ?_
  intro p e s m args below meth c s₁ B hml hv
  obtain ⟨rfl, hHo, hK, hSt⟩ := hv
  have hts := atoms_spec (ws := aQc cal :: aTb) B.pre
  have hown : s.vm.findClass (aCs (aOw cal)) = some m.cls := by
    rw [← aQ3 (by omega)]
    exact findClass_of_methodNamed B.named
  have hC : eCx E cal p s m (as.map (eCv E)).toArray meth c := ⟨B.exec, B.bytes, B.returns, hml, hown, fun w hw => hts w (List.mem_cons_of_mem _ hw), B.notSynchronized, fun h => init_name (name_of_methodNamed B.named B.method).1 h, hK, hSt, by rw [hHo.2.1]; exact Nat.le_add_right _ _, by omega⟩
  have hcat2 : ∀ w ∈ as.map (eCv E), w.category = 1 := by
    intro w hw
    obtain ⟨x, hx, rfl⟩ := List.mem_map.mp hw
    exact eCv_cat (hcat x hx)
  rw [lg_entry_eq]
  have hl := lv_entry (as.map (eCv E)) (n := aNL cal) (by rw [sl_len _ hcat2, List.length_map]; exact hlen)
  generalize (lg_sl (as.map (eCv E)) ++ List.replicate (aNL cal - (lg_sl (as.map (eCv E))).length) Slot.unset).toArray = lsC at hl ⊢
  refine hs E d cal 0 _ [] σ v τ hrun p e _ s m _ below meth c s.heap [] 0 0 _ lsC hC ⟨hHo, va_S.rf, ⟨by rw [List.length_append, List.length_replicate]; omega, _, hl, fun i hi => by have := args_mem (E := E) as 0 i hcat hi; rw [Nat.zero_add] at this; exact this⟩, fun _ h => absurd h List.not_mem_nil⟩ (Nat.le_refl _) (Nat.le_refl _) (by rw [Nat.zero_add]; exact Nat.le_refl _) (by rw [Nat.zero_add]; exact Nat.le_refl _) ?_
  intro pc' lsC' st' H' locs' hre hHo' hS'
  rw [Nat.zero_add, Nat.zero_add]
  have fin : ∀ t : State, t.heap = H' → eHo E τ t.heap ∧ va_F (eA E) s t := fun t ht => ⟨by rw [ht]; exact hHo', hS'.F ht⟩
  rcases hre with ⟨hp, x, ty, rfl, rfl, hrt, hnar, hty⟩ | ⟨hp, o, nm, rfl, rfl, hrt, ho⟩ | ⟨hp, rfl, rfl, hrt⟩
  · obtain ⟨n1, hd, hn⟩ := dec_at (by omega) hp
    obtain rfl := ln1 hn
    exact W.zret B.exec B.bytes (by rw [B.returns, hrt]) hnar (fun t ht hW => ⟨rfl, fin t ht⟩) hS'.2.2 hd B.notSynchronized
  · obtain ⟨n1, hd, hn⟩ := dec_at (by omega) hp
    obtain rfl := ln1 hn
    refine W.aret (v := eCv E o) B.exec B.bytes (by rw [B.returns, hrt]) (Or.inl ⟨_, rfl⟩) ?_ (fun t ht hW => ⟨rfl, fin t ht⟩) hS'.2.2 hd B.notSynchronized
    rcases ho with rfl | ⟨a, rfl⟩
    · exact Or.inl rfl
    · cases ho : eAo E a with
      | none => exact Or.inl (by show va_rf (eAo E a) = _; rw [ho]; rfl)
      | some y => exact Or.inr ⟨y, by show va_rf (eAo E a) = _; rw [ho]; rfl⟩
  · obtain ⟨n1, hd, hn⟩ := dec_at (by omega) hp
    obtain rfl := ln1 hn
    exact W.vret B.exec B.bytes (by rw [B.returns, hrt]) (fun t ht hW => ⟨rfl, fin t ht⟩) hS'.2.2 hd B.notSynchronized
/-- behind a call -/
theorem run_fin {mc ms : Nat} {st0 rest r : List Value} {as' : Array Value} (hr : va_Run p l e R s m args below meth c H locs cells slots mc ms (F0 m pc lsC st0) rest (eQc E v τ as') (eA E)) (hS : va_S (eA E) s.heap H locs) (hL : eLr E (aNL M) ls lsC) (hcat : ∀ w ∈ aPush v r, w.category = 1) (hrest : rest = r.map (eCv E)) (kk : eK E M p l e R s m args below meth c Q (cells + mc) (slots + ms) (pc + 3) ls (aPush v r) τ) : W p l e R s m args below meth c H locs cells slots Q (F0 m pc lsC st0) := by
  intro T hT X
  obtain ⟨v', st₀, t, T', L, h0, X', hL2, e1, e2, ⟨hv, hHo, hz, hk⟩, st⟩ := hr T hT X
  cases hv
  rw [h0] at hz hk
  have hst : (v.map (eCv E)).toList ++ rest = (aPush v r).map (eCv E) := by
    rw [hrest]
    cases v <;> rfl
  rw [hst] at st
  obtain ⟨t2, a1, b1⟩ := kk T'.heap (locs ++ L) lsC ⟨by rw [e1]; exact hHo, ⟨Nat.le_trans hS.1 (by rw [e1]; exact hz), fun q h1 h2 => by rw [e1, hk q (Nat.lt_of_lt_of_le h1 hS.1) h2]; exact hS.2.1 q h1 h2, fun q hq => by
      rcases List.mem_append.mp hq with h | h
      · exact hS.2.2 q h
      · exact hL2 q h⟩, hL, hcat⟩ T' rfl X'
  exact ⟨t2, st t2 a1, b1⟩
end
