set_option maxRecDepth 20000 in
theorem whole_start {p : Program} {e : Env} {s : State} {m : MethodId} {below : List Frame} {meth : Method} {c : Code} (l : Launch) (hflags : l.flags = flags0) {b L : Nat} {xs : Nat → Int32} (hL : L ≤ 3072) (C0 : lw_At p s m meth c b L xs) : W p l e room_1 s m #[Value.ref b] below meth c s.heap [] 0 0 (lw_Z below #[Value.ref b] s) (entryFrame m ([Value.ref b] : List Value).toArray 4) := by
  obtain ⟨hx, hb, hr, hml, hown, hts, hX, hbl, hlocks, hgv⟩ := id C0
  obtain ⟨t0, t1, q14, adK, adV, T0, T1, Z0, Z1, Z2, Z3, hS, hR⟩ := sn_cells (A := fun q : Nat => s.heap.size ≤ q) hgv hts (fun a ha => Nat.not_le.mpr ha)
  obtain ⟨D, cK, hK⟩ := sn_kinds hts
  obtain ⟨scr, x1, x2, x3, x4, x5⟩ := hX
  have TX : va_T .int b L (fun j => .int (xs j)) (fun q : Nat => s.heap.size ≤ q) s s.heap := ⟨scr, x1, x2, x3, by rw [x4]; exact Nat.le_refl _, by rw [x4], x5, Nat.not_le.mpr hbl⟩
  let E : aEnv := (fun k => if k = 0 then t0 else if k = 1 then t1 else if k < 8 then adK (k - 2) else if k < 14 then adV (k - 8) else if k = 14 then 0 else b, s.heap.size, q14, D, cK, sn_S L, sn_I xs, sn_R, (16, 0))
  have hSt : eSt E s s.heap := by
    refine ⟨fun k hk => ?_, rfl, fun q hq => ?_, fun q hq => ?_, fun k h1 h2 => ?_, fun q hq hn => ?_⟩
    · by_cases c0 : k = 0
      · subst c0
        exact Or.inl ⟨rfl, T0⟩
      by_cases c1 : k = 1
      · subst c1
        exact Or.inl ⟨rfl, T1⟩
      by_cases c8 : k < 8
      · refine Or.inr (Or.inr (Or.inl ?_))
        have hi : k - 2 < 6 := by omega
        obtain ⟨g1, g2, g3, -⟩ := hS.1 (k - 2) hi
        have e1 : E.1 k = adK (k - 2) := by show (if k = 0 then t0 else _) = _; rw [if_neg c0, if_neg c1, if_pos c8]
        have e2 : (E.2.2.2.2.2.1 k).1 = 14 := by show (sn_S L k).1 = 14; unfold sn_S; rw [if_neg c0, if_neg c1, if_pos c8]
        have e3 : E.2.2.2.2.2.2.1 k 1 = 0 := by show sn_I xs k 1 = 0; unfold sn_I; rw [if_neg c0, if_neg c1, if_pos c8]
        have e4 : va_rf ((E.2.2.2.2.2.2.2.1 k 0).bind (eAo E)) = .ref (adV (k - 2)) := by
          show va_rf ((sn_R k 0).bind (eAo E)) = _
          unfold sn_R
          rw [if_pos ⟨by omega, c8, rfl⟩]
          show va_rf (eAo E (k + 6)) = _
          unfold eAo eAd
          rw [if_neg (by omega), if_pos (by omega)]
          have e5 : E.1 (k + 6) = adV (k - 2) := by
            show (if k + 6 = 0 then t0 else if k + 6 = 1 then t1 else if k + 6 < 8 then adK (k + 6 - 2) else if k + 6 < 14 then adV (k + 6 - 8) else _) = _
            rw [if_neg (by omega), if_neg (by omega), if_neg (by omega), if_pos (by omega), show k + 6 - 8 = k - 2 by omega]
          rw [e5]
          rfl
        rw [e1, e3, e4]
        exact ⟨e2, g1, g2, g3⟩
      by_cases c14 : k < 14
      · refine Or.inr (Or.inl ?_)
        have hi : k - 8 < 6 := by omega
        obtain ⟨-, -, -, g4⟩ := hS.1 (k - 8) hi
        have e1 : E.1 k = adV (k - 8) := by show (if k = 0 then t0 else _) = _; rw [if_neg c0, if_neg c1, if_neg c8, if_pos c14]
        have e2 : E.2.2.2.2.2.1 k = (15, strL (k - 8)) := by show sn_S L k = _; unfold sn_S; rw [if_neg c0, if_neg c1, if_neg c8, if_pos c14]
        have e3 : E.2.2.2.2.2.2.1 k = fun j => (stBy.getD (k - 8) []).getD j 0 := by show sn_I xs k = _; funext j; unfold sn_I; rw [if_neg c0, if_neg c1, if_neg c8, if_pos c14]
        rw [e1, e2, e3]
        exact ⟨rfl, g4⟩
      by_cases c15 : k = 14
      · subst c15
        exact Or.inr (Or.inr (Or.inr rfl))
      · have : k = 15 := by omega
        subst this
        exact Or.inl ⟨rfl, TX⟩
    · simp only [aGl, aGn, List.zip_cons_cons, List.zip_nil_right, List.mem_cons, List.not_mem_nil, or_false] at hq
      rcases hq with rfl | rfl | rfl | rfl
      · exact Z0
      · exact Z1
      · exact Z2
      · exact Z3
    · simp only [aSl, List.mem_cons, List.not_mem_nil, or_false] at hq
      rcases hq with rfl | rfl | rfl | rfl | rfl | rfl
      · exact ⟨_, by decide, hR 0 (by decide)⟩
      · exact ⟨_, by decide, hR 1 (by decide)⟩
      · exact ⟨_, by decide, hR 2 (by decide)⟩
      · exact ⟨_, by decide, hR 3 (by decide)⟩
      · exact ⟨_, by decide, hR 4 (by decide)⟩
      · exact ⟨_, by decide, hR 5 (by decide)⟩
    · rcases (show k = 11 ∨ k = 12 ∨ k = 13 by omega) with rfl | rfl | rfl
      · exact va_AO.of (hts (.arrayOver (.object (aEl 11))) (by decide +kernel))
      · exact va_AO.of (hts (.arrayOver (.object (aEl 12))) (by decide +kernel))
      · exact va_AO.of (hts (.arrayOver (.object (aEl 13))) (by decide +kernel))
    · exact va_Nw.of rfl (hts _ (sn_nest q hq hn))
  have hC : eCx E 251 p s m #[Value.ref b] meth c := ⟨hx, hb, hr, hml, hown, fun w hw => hts w (aTb_tbl w hw), hlocks, fun h => absurd h (by decide), hK, hSt, Nat.le_refl _, by decide⟩
  have hHo : eHo E (sn_S L, sn_I xs, sn_R, (16, 0)) s.heap := by
    refine ⟨Nat.le_refl _, rfl, fun k hk => ⟨rfl, rfl, rfl⟩, fun k hk => ?_, fun k h1 h2 => absurd h2 (Nat.not_lt.mpr h1)⟩
    have hk : 16 ≤ k := hk
    show sn_S L k = _
    unfold sn_S
    rw [if_neg (by omega), if_neg (by omega), if_neg (by omega), if_neg (by omega), if_neg (by omega), if_neg (by omega)]
  have hl := lv_entry ([.ref b]) (n := 4) (Nat.le_of_ble_eq_true rfl)
  rw [lg_entry_eq]
  generalize (lg_sl ([.ref b]) ++ List.replicate (4 - (lg_sl ([.ref b])).length) Slot.unset).toArray = lsC at hl ⊢
  have hl : lv_has lsC 4 [(0, .ref b)] := hl
  have run : RB (0 + 300) 251 0 [.ref 15, .long 0, .long 0, .long 0] [] (sn_S L, sn_I xs, sn_R, (16, 0)) (fun v τ => v = some (.int 1) ∧ τ.2.2.2.1 ≤ 2000 ∧ τ.2.2.2.2 ≤ 100000) := by
    refine law_start (sc := ((9, L), xs)) ⟨rfl, rfl⟩ sn_K (fun q hq => hHo.2.2.2.1 q hq) (fun S I R z h => law_loop (sc := ((9, L), xs)) rfl hL (fun n S I R z hn h => ?_) 512 0 0 S I R z (Nat.le_refl _) (by omega) (Nat.zero_le _) h)
    have h1 : z.1 ≤ 103 + 2 * n := h.2.1.2.1
    have h2 : z.2 ≤ 20000 + 99 * n := h.2.1.2.2.1
    exact ⟨rfl, by show z.1 ≤ 2000; omega, by show z.2 ≤ 100000; omega⟩
  obtain ⟨n, v, τ, hrun, rfl, h1, h2⟩ := run
  refine eSim_all l n E 300 251 0 _ [] _ _ τ hrun p e room_1 s m _ below meth c s.heap [] 0 0 _ lsC hC ⟨hHo, va_S.rf, ⟨rfl, _, hl, fun i hi => ?_⟩, fun _ h => absurd h List.not_mem_nil⟩ (Nat.le_of_ble_eq_true rfl) (Nat.le_of_ble_eq_true rfl) (by show 0 + (τ.2.2.2.1 - 16) ≤ 600000; omega) (by show 0 + (τ.2.2.2.2 - 0) ≤ 7302250; omega) ?_
  · rcases (show i = 0 ∨ i = 1 ∨ i = 2 ∨ i = 3 ∨ 4 ≤ i by omega) with rfl | rfl | rfl | rfl | h
    · exact List.mem_cons_self
    · cases hi
    · cases hi
    · cases hi
    · rw [aLg_over _ _ h] at hi
      cases hi
  · intro pc' lsC' st' H' locs' hre hHo' hS'
    rcases hre with ⟨hp, x, ty, rfl, hv, hrt, hnar, hty⟩ | ⟨hp, o, nm, rfl, hv, hrt, ho⟩ | ⟨hp, rfl, hv, hrt⟩
    · cases hv
      obtain ⟨n1, hd, hn⟩ := dec_at (by decide) hp
      obtain rfl := ln1 hn
      refine va_forget (fun q hq => hS'.2.2 q hq) ?_
      refine W.widen (k := 600000) (n := 7302250) (by show 0 + (τ.2.2.2.1 - 16) ≤ 600000; omega) (by show 0 + (τ.2.2.2.2 - 0) ≤ 7302250; omega) ?_
      exact lw_ret hx hb hr hlocks hd
    · cases hv
      rcases ho with h | ⟨a, h⟩ <;> cases h
    · cases hv
