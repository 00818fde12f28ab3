section
variable {p : Program} {l : Launch} {e : Env} {R : Room} {s : State} {m : MethodId} {args : Array Value} {below : List Frame} {meth : Method} {c : Code} {H : Heap} {locs : List Loc} {cells slots : Nat} {Q : State → Prop} {pc : Nat} {ls : Array Slot}
variable {cc : ByteArray} {rest : List Value} {D : va_G} {cl : List vw_C} {A : Nat → Prop} {a a0 : Nat} {H0 : Heap} {cA : ClassId} {n0 n1 : Nat} {f g : Nat → Int32}
theorem x_copy (hexec : p.tables.exec = Jvm.exec) (hb : c.code = cc) (hml : c.maxLocals = ls.size) {own : String} {index : Nat} (hown : s.vm.findClass own = some m.cls) (hlink : (Cond.methodLink own index arraycopyName).before args s = true) (hnat : (Cond.native arraycopyName).before args s = true) (hstat : (Cond.static arraycopyName).before args s = true) (hini : (Cond.initialized "java/lang/System").before args s = true)
    (hAr : ArrOfT s cA .int) (ha0 : va_at D cl (a0, .inl (cA, n0, .inl f)) H) (ha1 : va_at D cl (a, .inl (cA, n1, .inl g)) H) (hA : A a) (hS : va_S A H0 H locs)
    {sp dp n : Int32} (h1 : ¬ sp < 0) (h2 : ¬ dp < 0) (h3 : ¬ n < 0) (h4 : sp.toNatClampNeg + n.toNatClampNeg ≤ n0) (h5 : dp.toNatClampNeg + n.toNatClampNeg ≤ n1)
    (hframes : 1 ≤ R.frames) (hlocals : (rest.map fun v => v.category).sum + (nativeFrameWords "java/lang/System" "arraycopy" 5 + 11) ≤ R.locals) (hdg : decode cc pc = .ok (.invokestatic index, 3))
    (kk : ∀ (H1 : Heap) (locs1 : List Loc), va_at D cl (a, .inl (cA, n1, .inl (va_cpy f g sp.toNatClampNeg dp.toNatClampNeg n.toNatClampNeg))) H1 → H1.size = H.size → (∀ q : Nat, q ≠ a → H1[q]? = H[q]?) → va_S A H0 H1 locs1 → W p l e R s m args below meth c H1 locs1 cells slots Q (F0 m (pc + 3) ls rest)) : W p l e R s m args below meth c H locs cells slots Q (F0 m pc ls (.int n :: .int dp :: .ref a :: .int sp :: .ref a0 :: rest)) := by
  have nn : ∀ z : Int32, ¬ z < 0 → z.toInt = (z.toNatClampNeg : Int) := by
    intro z hz
    have hz0 : (0 : Int) ≤ z.toInt := by
      have := Int32.not_lt.mp hz
      simpa using Int32.le_iff_toInt_le.mp this
    show z.toInt = ((z.toInt.toNat : Nat) : Int)
    omega
  intro T hT X
  have hc0 : H[a0]? = some (vp_cell cA (n0, .inl f)) := ha0
  have hc1 : H[a]? = some (vp_cell cA (n1, .inl g)) := ha1
  obtain ⟨-, k0, hk0, cm0, hkk0⟩ := hAr n0 (fun j => .int (f j))
  obtain ⟨-, k1, hk1, cm1, hkk1⟩ := hAr n1 (fun j => .int (g j))
  obtain ⟨vm', X', step⟩ := X.arraycopy hexec hown hlink hnat hstat hini (src := a0) (dst := a) (cs := vp_cell cA (n0, .inl f)) (cd := vp_cell cA (n1, .inl g)) (srcPos := sp) (destPos := dp) (n := n) (by rw [hT]; exact hc0) (by rw [hT]; exact hc1)
    (fun _ h => by cases h) (fun _ h => by cases h) (fun h => by cases h) (fun h => by cases h) hk0 hk1 hkk0 hkk1 (by simp [refKind]) h1 h2 h3
    (by rw [nn sp h1, nn n h3]; show ¬ _ > ((arrV cA n0 (fun j => .int (f j))).slots.size : Int); rw [arrV_size]; omega)
    (by rw [nn dp h2, nn n h3]; show ¬ _ > ((arrV cA n1 (fun j => .int (g j))).slots.size : Int); rw [arrV_size]; omega)
    (fun vm₁ _ i hi => by
      have e : (vp_cell cA (n0, .inl f)).slots.getD (sp.toNatClampNeg + i) .null = .int (f (sp.toNatClampNeg + i)) := by
        show (arrV cA n0 (fun j => .int (f j))).slots.getD _ _ = _
        rw [Array.getD_eq_getD_getElem?, arrV_read _ _ (by omega)]
        rfl
      refine ⟨?_, ?_⟩
      · rw [e]
        rfl
      · rw [e]
        exact trivial)
    (g := F0 m pc ls (.int n :: .int dp :: .ref a :: .int sp :: .ref a0 :: rest)) rfl (by rw [hml]) (rest := rest) rfl (by rw [hb]; exact hdg) hframes (by show 2 * 0 + _ + _ ≤ _; omega)
  have e1 : copied (vp_cell cA (n0, .inl f)) (vp_cell cA (n1, .inl g)) sp dp n = vp_cell cA (n1, .inl (va_cpy f g sp.toNatClampNeg dp.toNatClampNeg n.toNatClampNeg)) := va_copied (fun z => .int z) cA cA f g h4
  rw [e1] at X' step
  have hl : a < H.size := (Array.getElem?_eq_some_iff.mp hc1).1
  have hheap : ((T.setVm vm').setCell a (vp_cell cA (n1, .inl (va_cpy f g sp.toNatClampNeg dp.toNatClampNeg n.toNatClampNeg)))).heap = H.setIfInBounds a (vp_cell cA (n1, .inl (va_cpy f g sp.toNatClampNeg dp.toNatClampNeg n.toNatClampNeg))) := by rw [← hT]; rfl
  have oq : ∀ q : Nat, q ≠ a → (H.setIfInBounds a (vp_cell cA (n1, .inl (va_cpy f g sp.toNatClampNeg dp.toNatClampNeg n.toNatClampNeg))))[q]? = H[q]? := fun q hq => by simp [Array.getElem?_setIfInBounds, Ne.symm hq]
  obtain ⟨t, a1, b1⟩ := kk _ _ (show (H.setIfInBounds a _)[a]? = some _ by simp [Array.getElem?_setIfInBounds, hl]) (by simp) oq ⟨by simp; exact hS.1, fun q g1 g2 => by
      rw [oq q (fun e => g2 (by rw [e]; exact hA))]
      exact hS.2.1 q g1 g2, fun q hq => by
      rcases List.mem_append.mp hq with h | h
      · exact hS.2.2 q h
      · obtain ⟨z, -, hz⟩ := List.mem_map.mp h
        rw [← hz]
        exact hA⟩ _ hheap X'
  exact ⟨t, step t a1, b1⟩
end
section
variable {E : aEnv} {M : Nat} {p : Program} {l : Launch} {e : Env} {R : Room} {s : State} {m : MethodId} {args : Array Value} {below : List Frame} {meth : Method} {c : Code} {H : Heap} {locs : List Loc} {cells slots : Nat} {Q : State → Prop}
variable {pc : Nat} {ls st : List Value} {lsC : Array Slot} {σ τ : HS} {v : Option Value}
theorem aM_at {t k cal n κ : Nat} (h : aLk aMl (aOw M) k = some (t, cal, n, κ)) : (∀ w ∈ aMw ((aOw M, k), t, cal, n, κ), w ∈ aTb) ∧ aMk1 ((aOw M, k), t, cal, n, κ) = true ∧ aMk2 ((aOw M, k), t, cal, n, κ) = true ∧ aMk3 ((aOw M, k), t, cal, n, κ) = true ∧ aMk4 ((aOw M, k), t, cal, n, κ) = true ∧ ((aOw M, k), t, cal, n, κ) ∈ aMl := by
  have h1 := aLk_mem h
  exact ⟨aM_w _ h1, aM_1 _ h1, aM_2 _ h1, aM_3 _ h1, aM_4 _ h1, h1⟩
theorem cat_drop {n : Nat} (h : ∀ w ∈ st, w.category = 1) : ∀ w ∈ st.drop n, w.category = 1 := fun w hw => h w (List.mem_of_mem_drop hw)
theorem cat_sum : ∀ (r : List Value), (∀ w ∈ r, w.category = 1) → ((r.map (eCv E)).map fun w => w.category).sum = r.length
  | [], _ => rfl
  | w :: r, h => by
    have := cat_sum r (fun x hx => h x (List.mem_cons_of_mem _ hx))
    simp only [List.map_cons, List.sum_cons, List.length_cons] at this ⊢
    rw [this, eCv_cat (h w List.mem_cons_self)]
    omega
theorem cat_push {r : List Value} (hv : ∀ w, v = some w → w.category = 1) (h : ∀ w ∈ r, w.category = 1) : ∀ w ∈ aPush v r, w.category = 1 := by
  cases v with
  | none => exact h
  | some w => exact cat_cons (hv w rfl) h
theorem st_split {n : Nat} {as : List Value} (h : (st.take n).reverse = as) : st.map (eCv E) = (as.map (eCv E)).reverse ++ (st.drop n).map (eCv E) := by
  subst h
  rw [← List.map_reverse, List.reverse_reverse, ← List.map_append, List.take_append_drop]
theorem nest_t : ∀ e ∈ aMl, aNe.contains e.1 = true → e.2.1 ≠ 0 := by decide +kernel
theorem arrw : nativeFrameWords "java/lang/System" "arraycopy" 5 = 7 := by decide +kernel
theorem obj_inv {as : List Value} {x : HR} (h : aObj as σ = some x) : ∃ a, as = [.ref a] ∧ 16 ≤ a ∧ x = (none, σ) := by
  unfold aObj at h
  split at h
  · split at h
    · rename_i h16
      cases h
      exact ⟨_, rfl, h16, rfl⟩
    · cases h
  · cases h
theorem max_inv {as : List Value} {x : HR} (h : aMax as σ = some x) : ∃ a b : Int32, as = [.int a, .int b] ∧ x = (some (.int (if a < b then b else a)), σ) := by
  unfold aMax at h
  split at h
  · cases h
    exact ⟨_, _, rfl, rfl⟩
  · cases h
theorem min_inv {as : List Value} {x : HR} (h : aMin as σ = some x) : ∃ a b : Int32, as = [.int a, .int b] ∧ x = (some (.int (if b < a then b else a)), σ) := by
  unfold aMin at h
  split at h
  · cases h
    exact ⟨_, _, rfl, rfl⟩
  · cases h
theorem cpy_inv {as : List Value} {x : HR} (h : aCopy as σ = some x) : ∃ (a0 : Nat) (sp : Int32) (a : Nat) (dp n : Int32), as = [.ref a0, .int sp, .ref a, .int dp, .int n] ∧ ((σ.1 a0).1 = 9 ∧ (σ.1 a).1 = 9 ∧ 16 ≤ a0 ∧ 16 ≤ a ∧ ¬ sp < 0 ∧ ¬ dp < 0 ∧ ¬ n < 0 ∧ sp.toNatClampNeg + n.toNatClampNeg ≤ (σ.1 a0).2 ∧ dp.toNatClampNeg + n.toNatClampNeg ≤ (σ.1 a).2) ∧ x = (none, (σ.1, (fun b => if b = a then va_cpy (σ.2.1 a0) (σ.2.1 a) sp.toNatClampNeg dp.toNatClampNeg n.toNatClampNeg else σ.2.1 b), σ.2.2)) := by
  unfold aCopy at h
  split at h
  · split at h
    · rename_i hg
      cases h
      exact ⟨_, _, _, _, _, rfl, hg, rfl⟩
    · cases h
  · cases h
/-- the four of the library that are no walk of ours -/
theorem sx_bi {t k cal n κ d : Nat} (hC : eCx E M p s m args meth c) (hI : eIn E M s ls st lsC σ H locs) (hd : decode (aBy M) pc = .ok (if t = 0 then .invokevirtual k else if t = 1 then .invokestatic k else .invokespecial k, 3)) (hk : aLk aMl (aOw M) k = some (t, cal, n, κ)) (hn : n ≤ st.length) (h8 : (st.drop n).length ≤ 8) (h1000 : 1000 ≤ cal) (hb : aBi cal (st.take n).reverse σ = some (v, τ)) (hR : d + 1 ≤ R.frames) (hR2 : 40 * (d + 1) ≤ R.locals) (hc1 : cells ≤ R.cells) (hc2 : slots ≤ R.slots)
    (kk : eK E M p l e R s m args below meth c Q cells slots (pc + 3) ls (aPush v (st.drop n)) τ) : W p l e R s m args below meth c H locs cells slots Q (F0 m pc lsC (st.map (eCv E))) := by
  obtain ⟨hx, hbb, hr, hml, hown, hts, hlk, hin, hK, hSt, hbase, hM⟩ := id hC
  obtain ⟨w1, k1, -, -, -, -⟩ := aM_at hk
  have hsz := lsC_size hI hC
  have hsum := cat_sum (E := E) _ (cat_drop (n := n) hI.2.2.2)
  unfold aMk1 at k1
  unfold aMw at w1
  dsimp only at k1 w1
  unfold aBi at hb
  by_cases c0 : cal = 1000
  · rw [if_pos c0] at hb k1 w1
    simp only [Bool.and_eq_true, decide_eq_true_eq] at k1
    obtain ⟨⟨rfl, rfl⟩, rfl⟩ := k1
    obtain ⟨a, hrev, h16, hq⟩ := obj_inv hb
    cases hq
    rw [st_split hrev]
    have hcv : eCv E (.ref a) = .ref (eAd E a) := by
      show va_rf (eAo E a) = _
      unfold eAo
      rw [if_neg (show ¬ a = 14 from fun q => absurd (q ▸ h16) (by decide))]
      rfl
    show W p l e R s m args below meth c H locs cells slots Q (F0 m pc lsC (eCv E (.ref a) :: (st.drop 1).map (eCv E)))
    rw [hcv]
    refine W.objInit hx hbb hown (hts _ (w1 _ List.mem_cons_self)) (hts _ (aX_w _ (by simp))) (hts _ (aX_w _ (by simp))) rfl (by rw [hsz]) rfl hd (by omega) ?_ ?_
    · show 2 * 0 + _ + 12 ≤ _
      rw [hsum]
      omega
    · exact kk H locs lsC ⟨hI.1, hI.2.1, hI.2.2.1, cat_drop hI.2.2.2⟩
  · rw [if_neg c0] at hb k1 w1
    by_cases c1 : cal = 1001
    · rw [if_pos c1] at hb k1 w1
      simp only [Bool.and_eq_true, decide_eq_true_eq] at k1
      obtain ⟨⟨rfl, rfl⟩, rfl⟩ := k1
      obtain ⟨a0, sp, a, dp, nn, hrev, ⟨g1, g2, g3, g4, g5, g6, g7, g8, g9⟩, hq⟩ := cpy_inv hb
      cases hq
      obtain ⟨-, hlt0, hat0, hcv0⟩ := eHo_at hI.1 hSt g1 (by omega) (Or.inr g3)
      obtain ⟨-, hlt1, hat1, hcv1⟩ := eHo_at hI.1 hSt g2 (by omega) (Or.inr g4)
      rw [eCe_int g1 (by omega) (by omega)] at hat0
      rw [eCe_int g2 (by omega) (by omega)] at hat1
      rw [st_split hrev]
      show W p l e R s m args below meth c H locs cells slots Q (F0 m pc lsC (.int nn :: .int dp :: eCv E (.ref a) :: .int sp :: eCv E (.ref a0) :: (st.drop 5).map (eCv E)))
      rw [hcv0, hcv1]
      exact x_copy hx hbb hsz hown (hts _ (w1 _ List.mem_cons_self)) (hts _ (aX_w _ (by simp))) (hts _ (aX_w _ (by simp))) (hts _ (aX_w _ (by simp))) (eTy_K (ty := .int) hK (by omega) (by omega) rfl).1 hat0 hat1 (eAd_A g4) hI.2.1 g5 g6 g7 g8 g9 (by omega) (by rw [hsum, arrw]; omega) hd (fun H1 locs1 hatn z oq hS1 => kk H1 locs1 lsC ⟨eHo_upd hI.1 g4 rfl rfl (fun k hk => if_neg hk) (fun _ _ => rfl) z oq (by
        rw [eCe_int (κ := 9) (show ((((σ.1, (fun b => if b = a then va_cpy (σ.2.1 a0) (σ.2.1 a) sp.toNatClampNeg dp.toNatClampNeg nn.toNatClampNeg else σ.2.1 b), σ.2.2) : HS).1 a).1 = 9) from g2) (by omega) (by omega)]
        dsimp only
        rw [if_pos rfl]
        exact hatn), hS1, hI.2.2.1, cat_drop hI.2.2.2⟩)
    · rw [if_neg c1] at hb k1 w1
      by_cases c2 : cal = 1002
      · rw [if_pos c2] at hb
        rw [if_pos (Or.inl c2)] at k1
        rw [if_pos c2] at w1
        simp only [Bool.and_eq_true, decide_eq_true_eq] at k1
        obtain ⟨⟨rfl, rfl⟩, rfl⟩ := k1
        obtain ⟨x, y, hrev, hq⟩ := max_inv hb
        cases hq
        rw [st_split hrev]
        refine va_mmax hx hbb hsz hown (hts _ (w1 _ List.mem_cons_self)) (hts _ (aX_w _ (by simp))) (hts _ (aX_w _ (by simp))) (hts _ (aX_w _ (by simp))) (by omega) (by show (((st.drop 2).map (eCv E)).map fun v => v.category).sum + 13 ≤ R.locals; rw [hsum]; omega) hc1 hc2 hd ?_
        exact kk H locs lsC ⟨hI.1, hI.2.1, hI.2.2.1, cat_cons rfl (cat_drop hI.2.2.2)⟩
      · rw [if_neg c2] at hb w1
        by_cases c3 : cal = 1003
        · rw [if_pos c3] at hb w1
          rw [if_pos (Or.inr c3)] at k1
          simp only [Bool.and_eq_true, decide_eq_true_eq] at k1
          obtain ⟨⟨rfl, rfl⟩, rfl⟩ := k1
          obtain ⟨x, y, hrev, hq⟩ := min_inv hb
          cases hq
          rw [st_split hrev]
          refine va_mmin hx hbb hsz hown (hts _ (w1 _ List.mem_cons_self)) (hts _ (aX_w _ (by simp))) (hts _ (aX_w _ (by simp))) (hts _ (aX_w _ (by simp))) (by omega) (by show (((st.drop 2).map (eCv E)).map fun v => v.category).sum + 13 ≤ R.locals; rw [hsum]; omega) hc1 hc2 hd ?_
          exact kk H locs lsC ⟨hI.1, hI.2.1, hI.2.2.1, cat_cons rfl (cat_drop hI.2.2.2)⟩
        · rw [if_neg c3] at hb
          cases hb
/-- a call of a method of ours -/
theorem sx_call {N t k cal n κ d : Nat} (hs : eSim N l) (hC : eCx E M p s m args meth c) (hI : eIn E M s ls st lsC σ H locs) (hd : decode (aBy M) pc = .ok (if t = 0 then .invokevirtual k else if t = 1 then .invokestatic k else .invokespecial k, 3)) (hk : aLk aMl (aOw M) k = some (t, cal, n, κ)) (hn : n ≤ st.length) (h8 : (st.drop n).length ≤ 8) (hκ : κ = 99 ∨ (κ ≠ 99 ∧ ∃ a r, (st.take n).reverse = .ref a :: r ∧ (σ.1 a).1 = κ)) (h1000 : ¬ 1000 ≤ cal) (hlen : (st.take n).reverse.length ≤ aNL cal) (hrun : aRun N d cal 0 ((st.take n).reverse ++ List.replicate (aNL cal - (st.take n).reverse.length) (.long 0)) [] σ = some (v, τ)) (hR : d + 1 ≤ R.frames) (hR2 : 40 * (d + 1) ≤ R.locals) (hc1 : cells + (τ.2.2.2.1 - σ.2.2.2.1) ≤ R.cells) (hc2 : slots + (τ.2.2.2.2 - σ.2.2.2.2) ≤ R.slots)
    (kk : eK E M p l e R s m args below meth c Q (cells + (τ.2.2.2.1 - σ.2.2.2.1)) (slots + (τ.2.2.2.2 - σ.2.2.2.2)) (pc + 3) ls (aPush v (st.drop n)) τ) : W p l e R s m args below meth c H locs cells slots Q (F0 m pc lsC (st.map (eCv E))) := by
  obtain ⟨hx, hb, hr, hml, hown, hts, hlk, hin, hK, hSt, hbase, hM⟩ := id hC
  obtain ⟨w1, k1, k2, k3, k4, hmem⟩ := aM_at hk
  have hsz := lsC_size hI hC
  have hsum := cat_sum (E := E) _ (cat_drop (n := n) hI.2.2.2)
  have hcatA : ∀ w ∈ (st.take n).reverse, w.category = 1 := fun w hw => hI.2.2.2 w (List.mem_of_mem_take (List.mem_reverse.mp hw))
  have hcatP := cat_push (v := v) (r := st.drop n) (fun w hw => (aRun_top _ _ _ _ _ _ _ _ hrun).2.2 w hw) (cat_drop hI.2.2.2)
  unfold aMk1 at k1
  unfold aMk2 at k2
  unfold aMk3 at k3
  unfold aMk4 at k4
  dsimp only at k1 k2 k3 k4
  rw [if_neg (by omega), if_neg (by omega), if_neg (by omega)] at k1
  rw [if_neg h1000] at k2 k3 k4
  simp only [Bool.and_eq_true, decide_eq_true_eq] at k1 k2
  obtain ⟨⟨hcal, htk⟩, ht2⟩ := k1
  have hM2 := eMet_of hs hcal hlen hcatA hrun (E := E)
  have hq1 := aQ1 (k := cal) (by omega)
  have hwQ := aQ_w cal hcal
  have hwc := aQc_w cal hcal
  have hinit : (Cond.initialized (aNm cal).cls).before args s = true := hts _ (hwQ _ (by unfold aQw; exact List.mem_append_right _ List.mem_cons_self))
  have hws : ∀ w ∈ aQc cal :: aTb, ∀ (a' : Array Value) (U : State), s.WarmedH U.vm → w.before a' U = true := pay_in (big := aTb) hts (fun w hw => by
    have : w ∈ aTb := by
      rcases List.mem_cons.mp hw with q | q
      · rw [q]; exact hwc
      · exact q
    exact ⟨this, aTb_good w this⟩)
  have hcw : Cond.code (aNm cal) (aBy cal) (aNL cal) (aRt cal) ∈ aQc cal :: aTb := List.mem_cons_self
  have hcode : (Cond.code (aNm cal) (aBy cal) (aNL cal) (aRt cal)).before args s = true := hts _ hwc
  have hnl := aQ4 (k := cal) (by omega)
  have hlen2 : ∀ sig, parseMethodDescriptor (aNm cal).desc = some sig → sig.parameters.length + (if t = 1 then 0 else 1) = n := by
    intro sig hsig
    rw [hsig] at k2
    simpa using k2
  have hPc : ∀ U : State, U.heap = H → s.WarmedH U.vm → ePc E (st.take n).reverse σ ((st.take n).reverse.map (eCv E)).toArray U := fun U hU hW => ⟨rfl, by rw [hU]; exact hI.1, va_K.moved hW.alike hK, eSt_to hSt hI.2.1 hW hU⟩
  have hfix : CallFix p m c (aBy M) lsC.size s args aTb (aCs (aOw M)) := ⟨hx, hb, by rw [hsz], hown, hts⟩
  have hlenA : (st.take n).reverse.length = n := by rw [List.length_reverse, List.length_take]; omega
  rw [st_split (E := E) rfl]
  by_cases hne : aNe.contains (aOw M, k) = true
  · have hnl2 := hSt.2.2.2.2.2 _ hmem hne
    dsimp only at hnl2
    have ht0 := nest_t _ hmem hne
    dsimp only at ht0
    by_cases ht1 : t = 1
    · subst ht1
      have hstat : (Cond.static (aNm cal)).before args s = true := hts _ (hwQ _ (by unfold aQw; rw [if_pos htk.symm]; simp))
      have run := va_runSN (R := R) (As := (st.take n).reverse.map (eCv E)) (rest := (st.drop n).map (eCv E)) (g := F0 m pc lsC (((st.take n).reverse.map (eCv E)).reverse ++ (st.drop n).map (eCv E))) (locs := locs) (cells := cells) (slots := slots) (below := below) (meth := meth) (e := e) (H := H) hfix hM2 (host := "HangedWord") (index := k) (n := n) (bytes := aBy cal) (maxL := aNL cal) (ret := aRt cal) ⟨⟨⟨rfl, rfl, hR, by show 8 + (aNL cal + 11) + 40 * d ≤ R.locals; omega, hws, hcw⟩, hcode, hinit, hq1, fun sig hsig => by have := hlen2 sig hsig; simpa using this.symm, va_Nw.use rfl hnl2⟩, hstat, trivial⟩ ⟨ePc_blind, hPc⟩ rfl (by rw [List.length_map, hlenA]) rfl rfl (by show 2 * 0 + _ ≤ 8; rw [hsum]; omega) hd ⟨hc1, hc2⟩
      exact run_fin run hI.2.1 hI.2.2.1 hcatP rfl kk
    · have ht2' : t = 2 := by omega
      subst ht2'
      rw [if_neg (by decide)] at k3
      rw [if_pos rfl] at k4
      simp only [decide_eq_true_eq] at k3 k4
      rcases hκ with rfl | ⟨-, a, r, hrev, ha⟩
      · omega
      · have hinst : (Cond.instanceMethod (aNm cal)).before args s = true := hts _ (hwQ _ (by unfold aQw; rw [if_neg (by omega), if_neg (by omega)]; simp))
        rcases k3.1 with h8k | h14k
        · obtain ⟨-, -, -, hcv⟩ := eHo_at hI.1 hSt ha (by omega) (Or.inl (by omega))
          rw [hrev] at hPc hlenA hM2 ⊢
          rw [List.map_cons, hcv] at hPc ⊢
          rw [List.reverse_cons, List.append_assoc]
          have hM3 : Met l (aNm cal) (aQc cal :: aTb) _ (ePc E (.ref a :: r) σ) (eQc E v τ) _ _ (eA E) := hM2
          have hret : aRt cal = none := k4.2
          rw [hret] at hcw hcode
          have run := va_runIN (R := R) (As := r.map (eCv E)) (b := eAd E a) (rest := (st.drop n).map (eCv E)) (g := F0 m pc lsC ((r.map (eCv E)).reverse ++ ([Value.ref (eAd E a)] ++ (st.drop n).map (eCv E)))) (locs := locs) (cells := cells) (slots := slots) (below := below) (meth := meth) (e := e) (H := H) hfix hM3 (host := "HangedWord") (index := k) (n := n - 1) (bytes := aBy cal) (maxL := aNL cal) ⟨⟨⟨rfl, rfl, hR, by show 8 + (aNL cal + 11) + 40 * d ≤ R.locals; omega, hws, hcw⟩, hcode, hinit, hq1, fun sig hsig => by have := hlen2 sig hsig; rw [if_neg (by decide)] at this; omega, va_Nw.use rfl hnl2⟩, k4.1, hinst⟩ ⟨ePc_blind, hPc⟩ rfl (by rw [List.length_map]; rw [List.length_cons] at hlenA; omega) rfl rfl (by show 2 * 0 + _ ≤ 8; rw [hsum]; omega) hd ⟨hc1, hc2⟩
          exact run_fin run hI.2.1 hI.2.2.1 hcatP rfl kk
        · exfalso
          subst h14k
          have : ∀ e ∈ aMl, e.2.1 = 2 → e.2.2.2.2 ≠ 14 := by decide +kernel
          exact this _ hmem rfl rfl
  · have hlink : (Cond.methodLink (aCs (aOw M)) k (aNm cal)).before args s = true := by
      refine hts _ (w1 _ ?_)
      unfold aMw
      dsimp only
      rw [if_neg (by omega), if_neg (by omega), if_neg (by omega), if_neg (by omega), if_neg hne]
      exact List.mem_cons_self
    by_cases ht1 : t = 1
    · subst ht1
      have hstat : (Cond.static (aNm cal)).before args s = true := hts _ (hwQ _ (by unfold aQw; rw [if_pos htk.symm]; simp))
      have run := va_runS (R := R) (As := (st.take n).reverse.map (eCv E)) (rest := (st.drop n).map (eCv E)) (g := F0 m pc lsC (((st.take n).reverse.map (eCv E)).reverse ++ (st.drop n).map (eCv E))) (locs := locs) (cells := cells) (slots := slots) (below := below) (meth := meth) (e := e) (H := H) hfix hM2 (index := k) (n := n) (bytes := aBy cal) (maxL := aNL cal) (ret := aRt cal) ⟨⟨rfl, rfl, hR, by show 8 + (aNL cal + 11) + 40 * d ≤ R.locals; omega, hws, hcw, hcode, hinit, hq1, fun sig hsig => by have := hlen2 sig hsig; simpa using this.symm, hlink⟩, hstat⟩ ⟨ePc_blind, hPc⟩ rfl (by rw [List.length_map, hlenA]) rfl rfl (by show 2 * 0 + _ ≤ 8; rw [hsum]; omega) hd ⟨hc1, hc2⟩
      exact run_fin run hI.2.1 hI.2.2.1 hcatP rfl kk
    · rw [if_neg ht1] at k3
      simp only [decide_eq_true_eq] at k3
      rcases hκ with rfl | ⟨-, a, r, hrev, ha⟩
      · omega
      · have hrecv : ∃ b, eCv E (.ref a) = .ref b ∧ ∃ cellB : Cell, H[b]? = some cellB ∧ cellB.vm.isStatics = false ∧ s.vm.findClass (aNm cal).cls = some cellB.cls := by
          rcases k3.1 with h8k | rfl
          · obtain ⟨-, -, hat, hcv⟩ := eHo_at hI.1 hSt ha (by omega) (Or.inl (by omega))
            rw [eCe_obj ha h8k] at hat
            refine ⟨_, hcv, ?_⟩
            have := va_recv hK (eP1 hat) (aCl_at κ h8k) (q0 := 0) rfl
            rw [k3.2]
            unfold aKs
            rw [if_neg (by omega)]
            exact this
          · have hlt : a < 16 := by
              rcases Nat.lt_or_ge a 16 with q | q
              · exact q
              · rcases Nat.lt_or_ge a σ.2.2.2.1 with q2 | q2
                · have := (hI.1.2.2.2.2 a q q2).1; omega
                · have := hI.1.2.2.2.1 a q2; rw [this] at ha; simp at ha
            obtain ⟨e1, -⟩ := st_const hI.1 hlt
            have hne : a ≠ 14 := by
              intro q
              subst q
              rw [e1, hSt.2.1] at ha
              omega
            refine ⟨_, cv_const hlt hne, ?_⟩
            rw [e1] at ha
            rcases hSt.1 a hlt with g | g | g | g
            · omega
            · omega
            · obtain ⟨cell, q1, q2, q3, -⟩ := g.2.1.kept hI.2.1.2.1
              rw [k3.2]
              exact ⟨cell, q1, q2, q3⟩
            · omega
        obtain ⟨b, hcv, hcell⟩ := hrecv
        rw [hrev] at hPc hlenA hM2 ⊢
        rw [List.map_cons, hcv] at hPc ⊢
        rw [List.reverse_cons, List.append_assoc]
        have hM3 : Met l (aNm cal) (aQc cal :: aTb) _ (ePc E (.ref a :: r) σ) (eQc E v τ) _ _ (eA E) := hM2
        have hlenr : (r.map (eCv E)).length = n - 1 := by rw [List.length_map]; rw [List.length_cons] at hlenA; omega
        have hpar : ∀ sig, parseMethodDescriptor (aNm cal).desc = some sig → n - 1 = sig.parameters.length := fun sig hsig => by have := hlen2 sig hsig; rw [if_neg ht1] at this; omega
        by_cases ht0 : t = 0
        · subst ht0
          have hwQ2 : ∀ w ∈ [Cond.instanceMethod (aNm cal), Cond.selects (aNm cal).cls (aNm cal) (aNm cal)], w ∈ aTb := by
            intro w hw
            refine hwQ w ?_
            unfold aQw
            rw [if_neg (by omega), if_pos htk.symm]
            exact List.mem_append_left _ hw
          have run := va_runV (R := R) (As := r.map (eCv E)) (b := b) (C := (aNm cal).cls) (rest := (st.drop n).map (eCv E)) (g := F0 m pc lsC ((r.map (eCv E)).reverse ++ ([Value.ref b] ++ (st.drop n).map (eCv E)))) (locs := locs) (cells := cells) (slots := slots) (below := below) (meth := meth) (e := e) (H := H) hfix hM3 (index := k) (n := n - 1) (bytes := aBy cal) (maxL := aNL cal) (ret := aRt cal) ⟨⟨rfl, rfl, hR, by show 8 + (aNL cal + 11) + 40 * d ≤ R.locals; omega, hws, hcw, hcode, hinit, hq1, hpar, hlink⟩, hts _ (hwQ2 _ (by simp)), hts _ (hwQ2 _ (by simp))⟩ ⟨ePc_blind, hcell, hPc⟩ rfl hlenr rfl rfl (by show 2 * 0 + _ ≤ 8; rw [hsum]; omega) hd ⟨hc1, hc2⟩
          exact run_fin run hI.2.1 hI.2.2.1 hcatP rfl kk
        · have ht2' : t = 2 := by omega
          subst ht2'
          rw [if_pos rfl] at k4
          simp only [decide_eq_true_eq] at k4
          have hinst : (Cond.instanceMethod (aNm cal)).before args s = true := hts _ (hwQ _ (by unfold aQw; rw [if_neg (by omega), if_neg (by omega)]; simp))
          have hret : aRt cal = none := k4.2
          rw [hret] at hcw hcode
          have run := va_runI (R := R) (As := r.map (eCv E)) (b := b) (rest := (st.drop n).map (eCv E)) (g := F0 m pc lsC ((r.map (eCv E)).reverse ++ ([Value.ref b] ++ (st.drop n).map (eCv E)))) (locs := locs) (cells := cells) (slots := slots) (below := below) (meth := meth) (e := e) (H := H) hfix hM3 (index := k) (n := n - 1) (bytes := aBy cal) (maxL := aNL cal) ⟨⟨rfl, rfl, hR, by show 8 + (aNL cal + 11) + 40 * d ≤ R.locals; omega, hws, hcw, hcode, hinit, hq1, hpar, hlink⟩, k4.1, hinst⟩ ⟨ePc_blind, hPc⟩ rfl hlenr rfl rfl (by show 2 * 0 + _ ≤ 8; rw [hsum]; omega) hd ⟨hc1, hc2⟩
          exact run_fin run hI.2.1 hI.2.2.1 hcatP rfl kk
theorem tri {c a b d : Nat} (h1 : a ≤ b) (h2 : b ≤ d) : c + (b - a) + (d - b) = c + (d - a) := by omega
theorem tri2 {c a b d r : Nat} (h1 : a ≤ b) (h2 : b ≤ d) (h : c + (d - a) ≤ r) : c + (b - a) + (d - b) ≤ r := by omega
theorem eSim_all (l : Launch) : ∀ n, eSim n l := by
  intro n
  induction n with
  | zero => intro E d M pc ls st σ v τ h; cases h
  | succ n ih =>
    intro E d M pc ls st σ v τ hrun p e R s m args below meth c H locs cells slots Q lsC hC hI hR hR2 hc1 hc2 hend
    rw [aRun] at hrun
    cases hp : aP M pc with
    | none => rw [hp] at hrun; cases hrun
    | some i =>
      rw [hp, Option.bind_some] at hrun
      cases ha : aEx M pc i ls st σ with
      | none => rw [ha] at hrun; cases hrun
      | some act =>
        rw [ha] at hrun
        rcases ex_kind ha with hg | hg | hg
        · obtain ⟨pc', ls', st', σ', rfl, h1, h2⟩ := hg
          have hrun2 : aRun n d M pc' ls' st' σ' = some (v, τ) := hrun
          have htop := aRun_top _ _ _ _ _ _ _ _ hrun2
          dsimp only at htop
          refine ex_next hC hI hp ha (by omega) (by omega) ?_
          intro H' locs' lsC' hI'
          refine ih E d M pc' ls' st' σ' v τ hrun2 p e R s m args below meth c H' locs' _ _ Q lsC' hC hI' hR hR2 (by omega) (by omega) ?_
          have e1 : cells + (σ'.2.2.2.1 - σ.2.2.2.1) + (τ.2.2.2.1 - σ'.2.2.2.1) = cells + (τ.2.2.2.1 - σ.2.2.2.1) := by
            omega
          have e2 : slots + (σ'.2.2.2.2 - σ.2.2.2.2) + (τ.2.2.2.2 - σ'.2.2.2.2) = slots + (τ.2.2.2.2 - σ.2.2.2.2) := by
            omega
          rw [e1, e2]
          exact hend
        · obtain ⟨k, t, hi, ht2, hc⟩ := inv_inv hg ha
          obtain ⟨cal, nn, κ, hk, hn, h8, rfl, hκ⟩ := call_inv hc
          dsimp only at hrun
          cases hcc : aCall (fun d' c' ls' σ' => aRun n d' c' 0 ls' [] σ') d cal (st.take nn).reverse σ with
          | none => rw [hcc] at hrun; cases hrun
          | some z =>
            rw [hcc] at hrun
            obtain ⟨v1, τ1⟩ := z
            have hrun2 : aRun n d M (pc + 3) ls (aPush v1 (st.drop nn)) τ1 = some (v, τ) := hrun
            have htop := aRun_top _ _ _ _ _ _ _ _ hrun2
            dsimp only at htop
            obtain ⟨n1, hd, hln⟩ := dec_at hC.2.2.2.2.2.2.2.2.2.2.2 hp
            have hn3 : n1 = 3 := by
              rw [hi] at hln
              rcases (show t = 0 ∨ t = 1 ∨ t = 2 by omega) with rfl | rfl | rfl <;> exact ln3 hln
            subst hn3
            rw [hi] at hd
            cases d with
            | zero => cases hcc
            | succ d =>
              rw [aCall] at hcc
              have kk : ∀ (e1 : σ.2.2.2.1 ≤ τ1.2.2.2.1) (e2 : σ.2.2.2.2 ≤ τ1.2.2.2.2), eK E M p l e R s m args below meth c Q (cells + (τ1.2.2.2.1 - σ.2.2.2.1)) (slots + (τ1.2.2.2.2 - σ.2.2.2.2)) (pc + 3) ls (aPush v1 (st.drop nn)) τ1 := by
                intro q1 q2 H' locs' lsC' hI'
                refine ih E (d + 1) M (pc + 3) ls _ τ1 v τ hrun2 p e R s m args below meth c H' locs' _ _ Q lsC' hC hI' hR hR2 (tri2 q1 htop.1 hc1) (tri2 q2 htop.2.1 hc2) ?_
                have e1 : cells + (τ1.2.2.2.1 - σ.2.2.2.1) + (τ.2.2.2.1 - τ1.2.2.2.1) = cells + (τ.2.2.2.1 - σ.2.2.2.1) := tri q1 htop.1
                have e2 : slots + (τ1.2.2.2.2 - σ.2.2.2.2) + (τ.2.2.2.2 - τ1.2.2.2.2) = slots + (τ.2.2.2.2 - σ.2.2.2.2) := tri q2 htop.2.1
                rw [e1, e2]
                exact hend
              split at hcc
              · rename_i h1000
                have hb := (bi_top hcc).1
                dsimp only at hb
                have k0 := kk (by rw [hb]; exact Nat.le_refl _) (by rw [hb]; exact Nat.le_refl _)
                rw [hb, Nat.sub_self, Nat.sub_self] at k0
                exact sx_bi hC hI hd hk hn h8 h1000 hcc hR hR2 (by omega) (by omega) k0
              · rename_i h1000
                split at hcc
                · rename_i hlen
                  have htop1 := aRun_top _ _ _ _ _ _ _ _ hcc
                  dsimp only at htop1
                  exact sx_call ih hC hI hd hk hn h8 hκ h1000 hlen hcc hR hR2 (by omega) (by omega) (kk htop1.1 htop1.2.1)
                · cases hcc
        · obtain ⟨w, rfl, hre, -⟩ := ret_inv hp hg ha
          cases hrun
          have := hend pc lsC st H locs hre hI.1 hI.2.1
          rw [Nat.sub_self, Nat.sub_self] at this
          exact this
end
