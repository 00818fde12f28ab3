/-! what holds of both objects between two calls
-/
def strB (i j : Nat) : Nat := ([[97, 115, 107], [100, 114, 97, 119], [102, 105, 110, 101], [110, 119, 102], [119, 110], [108, 107]].getD i []).getD j 0
def strL (i : Nat) : Nat := ([3, 4, 4, 3, 2, 2] : List Nat).getD i 0
def keyB (j : Nat) : Nat := ([97, 115, 107, 100, 114, 97, 119, 102, 105, 110, 101] : List Nat).getD j 0
def keyA (j : Nat) : Nat := ([0, 3, 7, 11] : List Nat).getD j 0
/-- the model's rows of the keys -/
def Kk (I : Nat → Nat → Int32) : Prop := (∀ j, j < 11 → I 87 j = nI (keyB j)) ∧ (∀ j, j < 4 → I 88 j = nI (keyA j))
/-- the constants -/
def Kx (S : Nat → Nat × Nat) (I : Nat → Nat → Int32) (R : Nat → Nat → Option Nat) : Prop := Kb S I ∧ (∀ i, i < 6 → S (2 + i) = (14, 2) ∧ R (2 + i) 0 = some (8 + i) ∧ I (2 + i) 1 = nI 0 ∧ S (8 + i) = (15, strL i) ∧ ∀ j, j < strL i → I (8 + i) j = nI (strB i j)) ∧ Kk I
/-- the shapes of what is made once -/
def Fs (S : Nat → Nat × Nat) (R : Nat → Nat → Option Nat) : Prop := Hd S R ∧ Md S R ∧ Sd S R 17 ∧ Sd S R 28 ∧ Sd S R 39 ∧ (∀ i, i < 4 → R 52 i = some (58 + 2 * i) ∧ S (58 + 2 * i) = (0, 3) ∧ S (59 + 2 * i) = (9, 24) ∧ R (58 + 2 * i) 0 = some (59 + 2 * i)) ∧ (∀ i, i < 5 → R 53 i = some (66 + 3 * i) ∧ S (66 + 3 * i) = (1, 5) ∧ R (66 + 3 * i) 4 = some (67 + 3 * i) ∧ S (67 + 3 * i) = (0, 3) ∧ R (67 + 3 * i) 0 = some (68 + 3 * i) ∧ S (68 + 3 * i) = (9, 24))
/-- the references to texts are texts -/
def Tr (S : Nat → Nat × Nat) (R : Nat → Nat → Option Nat) (r : Nat) : Prop := ∀ t, t < 14 → R (r + 6) t = none ∨ ∃ c, R (r + 6) t = some c ∧ 103 ≤ c ∧ S c = (4, 3)
/-- the row of the image -/
def Gi (I : Nat → Nat → Int32) : Nat → Nat := fun k => uN (I 83 k)
def Im (S : Nat → Nat × Nat) (I : Nat → Nat → Int32) (R : Nat → Nat → Option Nat) : Prop := I 16 8 = I 81 3 ∧ (I 81 3 = nI 0 ∨ (I 81 3 = nI 1 ∧ Cs S I R 28 (Gi I)))
def Wa (I : Nat → Nat → Int32) : Prop := ∃ k, k ≤ 60 ∧ I 16 9 = nI k ∧ I 81 32 = nI k ∧ ∀ j, j < k → I 57 j = I 102 j
def Ta (I : Nat → Nat → Int32) : Prop := (I 54 10 = nI 0 ∧ I 54 11 = nI 0) ∧ ∃ k, k ≤ 96 ∧ I 54 1 = nI k ∧ I 81 6 = nI k ∧ ∀ j, j < k → I 55 j = I 86 j ∧ ∃ b, b < 256 ∧ I 86 j = nI b
def Shs (I : Nat → Nat → Int32) : Prop := ∀ i, i < 4 → ∃ n, n ≤ 24 ∧ I (58 + 2 * i) 2 = nI n ∧ I 95 i = nI n ∧ I (58 + 2 * i) 1 = I 94 i ∧ ((I 94 i = -nI 1 ∧ n = 0) ∨ I 94 i = nI 0 ∨ I 94 i = nI 1) ∧ ∀ k, k < 24 → I (59 + 2 * i) k = I 96 (24 * i + k)
def Sls (I : Nat → Nat → Int32) : Prop := ∀ i, i < 5 → I (66 + 3 * i) 0 = I 97 i ∧ (I 97 i = nI 0 ∨ (I 97 i = nI 1 ∧ ∃ k f, k ≤ 5 ∧ f ≤ 5 ∧ I (66 + 3 * i) 1 = nI k ∧ I (66 + 3 * i) 2 = nI f ∧ I 98 i = nI k ∧ I 99 i = nI (sWor k f)) ∨ (I 97 i = nI 2 ∧ ∃ n, n ≤ 24 ∧ I (67 + 3 * i) 2 = nI n ∧ I 98 i = nI n ∧ ∀ k, k < 24 → I (68 + 3 * i) k = I 100 (24 * i + k)) ∨ (I 97 i = nI 3 ∧ I (66 + 3 * i) 3 = I 98 i))
def Sci : Type := (Nat × Nat) × (Nat → Int32)
def Room3 (n : Nat) (S : Nat → Nat × Nat) (z : Nat × Nat) : Prop := 103 ≤ z.1 ∧ z.1 ≤ 103 + 2 * n ∧ z.2 ≤ 20000 + 99 * n ∧ ∀ k, z.1 ≤ k → S k = (99, 0)
/-- the shapes that the law looks at -/
def P15 (S : Nat → Nat × Nat) (sc : (Nat × Nat) × (Nat → Int32)) : Prop := S 15 = sc.1 ∧ S 16 = (6, 10) ∧ S 81 = (7, 33)
/-- between two calls, behind n of them -/
def Inv (sc : (Nat × Nat) × (Nat → Int32)) (n : Nat) (S : Nat → Nat × Nat) (I : Nat → Nat → Int32) (R : Nat → Nat → Option Nat) (z : Nat × Nat) : Prop := (P15 S sc ∧ I 15 = sc.2) ∧ Room3 n S z ∧ Kx S I R ∧ Fs S R ∧ Mr S I R ∧ Cs S I R 17 (G I) ∧ (Tr S R 17 ∧ Tr S R 28) ∧ Im S I R ∧ Wa I ∧ Ta I ∧ Shs I ∧ Sls I
section
variable {sc : (Nat × Nat) × (Nat → Int32)} {n r : Nat} {g : Nat → Nat} {S : Nat → Nat × Nat} {I J : Nat → Nat → Int32} {R : Nat → Nat → Option Nat} {z : Nat × Nat}
theorem Inv.mr (h : Inv sc n S I R z) : Mr S I R := h.2.2.2.2.1
theorem Inv.cs (h : Inv sc n S I R z) : Cs S I R 17 (G I) := h.2.2.2.2.2.1
theorem Inv.fs (h : Inv sc n S I R z) : Fs S R := h.2.2.2.1
theorem Inv.hr (h : Inv sc n S I R z) : Hr S I R (G I) := ⟨h.fs.1, h.cs⟩
theorem Inv.kk (h : Inv sc n S I R z) : Kk I := h.2.2.1.2.2
theorem Inv.kb (h : Inv sc n S I R z) : Kb S I := h.2.2.1.1
theorem Inv.im (h : Inv sc n S I R z) : Im S I R := h.2.2.2.2.2.2.2.1
theorem Inv.wa (h : Inv sc n S I R z) : Wa I := h.2.2.2.2.2.2.2.2.1
theorem Inv.ta (h : Inv sc n S I R z) : Ta I := h.2.2.2.2.2.2.2.2.2.1
theorem Inv.sh (h : Inv sc n S I R z) : Shs I := h.2.2.2.2.2.2.2.2.2.2.1
theorem Inv.sl (h : Inv sc n S I R z) : Sls I := h.2.2.2.2.2.2.2.2.2.2.2
theorem Kx.cong (h : Kx S I R) (e : ∀ q, q < 15 ∨ q = 87 ∨ q = 88 → J q = I q) : Kx S J R := by
  obtain ⟨⟨hS, i0, i1, i2, i3, i4, i5⟩, hs, hk⟩ := h
  refine ⟨?_, fun i hi => ?_, ?_⟩
  · unfold Kb
    rw [e 0 (by omega)]
    exact ⟨hS, i0, i1, i2, i3, i4, i5⟩
  · rw [e (2 + i) (by omega), e (8 + i) (by omega)]
    exact hs i hi
  · unfold Kk
    rw [e 87 (by omega), e 88 (by omega)]
    exact hk
theorem Mr.cong (h : Mr S I R) (e1 : J 1 = I 1) (e82 : J 82 = I 82) : Mr S J R := by
  refine ⟨h.1, ?_, ?_⟩
  · rw [e1]
    exact h.2.1
  · have : G J = G I := by
      unfold G
      rw [e82]
    rw [this]
    exact h.2.2
theorem Cs.cong (h : Cs S I R r g) (e : ∀ q, (r ≤ q ∧ q ≤ r + 7) ∨ 103 ≤ q → J q = I q) : Cs S J R r g := by
  obtain ⟨hr, sd, ok, cn, ⟨a1, a2, a3, a4, a5, a7⟩, ct⟩ := h
  refine ⟨hr, sd, ok, ?_, ⟨?_, ?_, ?_, ?_, ?_, ?_⟩, ?_⟩
  · unfold Cn
    rw [e r (by omega)]
    exact cn
  · rw [e _ (by omega)]; exact a1
  · rw [e _ (by omega)]; exact a2
  · rw [e _ (by omega)]; exact a3
  · rw [e _ (by omega)]; exact a4
  · rw [e _ (by omega)]; exact a5
  · rw [e _ (by omega)]; exact a7
  · intro t ht
    obtain ⟨c, hc, t1, t2, t3, t4, t5, t6, t7⟩ := ct t ht
    refine ⟨c, hc, t1, t2, t3, t4, ?_, ?_, ?_⟩
    · rw [e _ (by omega)]; exact t5
    · rw [e _ (by omega)]; exact t6
    · rw [e _ (by omega)]; exact t7
theorem Im.cong (h : Im S I R) (e16 : J 16 8 = I 16 8) (e81 : J 81 3 = I 81 3) (e83 : J 83 = I 83) (e : ∀ q, (28 ≤ q ∧ q ≤ 35) ∨ 103 ≤ q → J q = I q) : Im S J R := by
  obtain ⟨h1, h2⟩ := h
  refine ⟨by rw [e16, e81]; exact h1, ?_⟩
  rw [e81]
  rcases h2 with q | q
  · exact Or.inl q
  · refine Or.inr ⟨q.1, ?_⟩
    have : Gi J = Gi I := by
      unfold Gi
      rw [e83]
    rw [this]
    exact q.2.cong e
theorem Wa.cong (h : Wa I) (e16 : J 16 9 = I 16 9) (e81 : J 81 32 = I 81 32) (e57 : J 57 = I 57) (e102 : J 102 = I 102) : Wa J := by
  unfold Wa
  rw [e16, e81, e57, e102]
  exact h
theorem Ta.cong (h : Ta I) (e54 : J 54 = I 54) (e81 : J 81 6 = I 81 6) (e55 : J 55 = I 55) (e86 : J 86 = I 86) : Ta J := by
  unfold Ta
  rw [e54, e81, e55, e86]
  exact h
theorem Shs.cong (h : Shs I) (e : ∀ q, (58 ≤ q ∧ q ≤ 65) ∨ (94 ≤ q ∧ q ≤ 96) → J q = I q) : Shs J := by
  intro i hi
  rw [e (58 + 2 * i) (by omega), e (59 + 2 * i) (by omega), e 94 (by omega), e 95 (by omega), e 96 (by omega)]
  exact h i hi
theorem Sls.cong (h : Sls I) (e : ∀ q, (66 ≤ q ∧ q ≤ 80) ∨ (97 ≤ q ∧ q ≤ 100) → J q = I q) : Sls J := by
  intro i hi
  rw [e (66 + 3 * i) (by omega), e (67 + 3 * i) (by omega), e (68 + 3 * i) (by omega), e 97 (by omega), e 98 (by omega), e 99 (by omega), e 100 (by omega)]
  exact h i hi
theorem Inv.ch (h : Inv sc n S I R z) (e15 : ∀ q, q < 16 ∨ q = 87 ∨ q = 88 → J q = I q) (hm : Mr S J R) (hc : Cs S J R 17 (G J)) (him : Im S J R) (hw : Wa J) (ht : Ta J) (hs : Shs J) (hl : Sls J) : Inv sc n S J R z := by
  obtain ⟨h1, h2, h3, h4, h5, h6, h7, h8⟩ := h
  exact ⟨⟨h1.1, (e15 15 (by decide)).trans h1.2⟩, h2, h3.cong (fun q hq => e15 q (by omega)), h4, hm, hc, h7, him, hw, ht, hs, hl⟩
theorem Inv.bump (h : Inv sc n S I R z) : Inv sc (n + 1) S I R z := by
  obtain ⟨h1, ⟨h2, h3, h4, h5⟩, hh⟩ := h
  exact ⟨h1, ⟨h2, by omega, by omega, h5⟩, hh⟩
/-- all stays but the row, the State, and what is only written on -/
def Nw (I J : Nat → Nat → Int32) : Prop := ∀ q, q < 17 ∨ (27 < q ∧ q < 39) ∨ (51 < q ∧ q ≠ 82 ∧ q ≠ 84 ∧ q ≠ 85 ∧ q ≠ 92 ∧ q ≠ 93) → J q = I q
theorem Nw.refl (I : Nat → Nat → Int32) : Nw I I := fun _ _ => rfl
theorem Nw.trans {A B C : Nat → Nat → Int32} (h : Nw A B) (h2 : Nw B C) : Nw A C := fun q hq => (h2 q hq).trans (h q hq)
theorem Fr.nw (h : Fr 17 I J) : Nw I J := fun q hq => h q (by omega)
theorem Sc.nw (h : Sc 17 I J) : Nw I J := fun q hq => h q (by omega) (by omega) (by omega)
theorem Si.nw (h : Si I J) : Nw I J := fun q hq => h q (by omega) (by omega)
theorem Sg.nw (h : Sg I g J) : Nw I J := fun q hq => h.2 q (by omega) (by omega) (by omega)
theorem Inv.nw (h : Inv sc n S I R z) (e : Nw I J) (hm : Mr S J R) (hc : Cs S J R 17 (G J)) : Inv sc n S J R z := by
  refine h.ch (fun q hq => e q (by omega)) hm hc ?_ ?_ ?_ ?_ ?_
  · exact h.im.cong (by rw [e 16 (by omega)]) (by rw [e 81 (by omega)]) (e 83 (by omega)) (fun q hq => e q (by omega))
  · exact h.wa.cong (by rw [e 16 (by omega)]) (by rw [e 81 (by omega)]) (e 57 (by omega)) (e 102 (by omega))
  · exact h.ta.cong (by rw [e 54 (by omega)]) (by rw [e 81 (by omega)]) (e 55 (by omega)) (e 86 (by omega))
  · exact h.sh.cong (fun q hq => e q (by omega))
  · exact h.sl.cong (fun q hq => e q (by omega))
theorem Inv.scr (h : Inv sc n S I R z) (e : Sc 17 I J) : Inv sc n S J R z := by
  have eG : G J = G I := by
    unfold G
    rw [e 82 (by omega) (by omega) (by omega)]
  refine h.nw e.nw (h.mr.cong (e 1 (by omega) (by omega) (by omega)) (e 82 (by omega) (by omega) (by omega))) ?_
  rw [eG]
  exact h.cs.sc e
theorem Inv.si (h : Inv sc n S I R z) (e : Si I J) : Inv sc n S J R z := by
  refine h.nw e.nw (h.mr.si e) ?_
  rw [e.G]
  exact h.cs.cong (fun q hq => e q (by omega) (by omega))
/-- the row becomes g on both sides -/
theorem Inv.st {J K : Nat → Nat → Int32} (h : Inv sc n S I R z) (e : Fr 17 I J) (hc : Cs S J R 17 g) (h2 : Sg J g K) : Inv sc n S K R z := by
  have ok := hc.2.2.1
  have hmJ : Mr S J R := h.mr.cong (e 1 (by omega)) (e 82 (by omega))
  refine h.nw (e.nw.trans h2.nw) (hmJ.sg h2 ok) ?_
  rw [h2.1]
  exact hc.cong (fun q hq => h2.2 q (by omega) (by omega) (by omega))
theorem Inv.mrJ (h : Inv sc n S I R z) (e : Fr 17 I J) : Mr S J R ∧ G J = G I := ⟨h.mr.cong (e 1 (by omega)) (e 82 (by omega)), by unfold G; rw [e 82 (by omega)]⟩
theorem Inv.k15 (h : Inv sc n S I R z) (e : Fr 17 I J) : P15 S sc ∧ J 15 = sc.2 := ⟨h.1.1, (e 15 (by omega)).trans h.1.2⟩
/-- the other object answers the same, and all holds again -/
def Px (d mr : Nat) (as : List Value) (sc : (Nat × Nat) × (Nat → Int32)) (n : Nat) : Option Value → HS → Prop := fun v1 τ1 => (P15 τ1.1 sc ∧ τ1.2.1 15 = sc.2) ∧ RM (d + 300) mr (.ref 81 :: as) τ1 (fun v2 τ2 => Inv sc (n + 1) τ2.1 τ2.2.1 τ2.2.2.1 τ2.2.2.2 ∧ ∃ x, v1 = some (.int x) ∧ v2 = some (.int x))
theorem inN_ne {x : Int32} {m k : Nat} (h : inN x m = false) (hk : k < m) (hm : m < 2147483648) : (x = nI k) = False := by
  apply eq_false
  intro e
  rw [e, inN_I hk hm] at h
  cases h
theorem inN_F {x : Int32} {m : Nat} (h : inN x m = false) (h0 : ¬ x < nI 0) : ¬ x < nI m := by
  intro q
  unfold inN at h
  rw [decide_eq_false h0, decide_eq_true q] at h
  cases h
theorem bw_F {x a b : Int32} (h : bw x a b = false) (h0 : ¬ x < a) : b < x := by
  by_cases q : b < x
  · exact q
  · unfold bw at h
    rw [decide_eq_false h0, decide_eq_false q] at h
    cases h
end
section
variable {sc : (Nat × Nat) × (Nat → Int32)} {n r d mr : Nat} {as : List Value} {x : Int32} {S : Nat → Nat × Nat} {I J : Nat → Nat → Int32} {R : Nat → Nat → Option Nat} {z : Nat × Nat}
def Pe (sc : (Nat × Nat) × (Nat → Int32)) (n : Nat) (x : Int32) : Option Value → HS → Prop := fun v τ => Inv sc (n + 1) τ.1 τ.2.1 τ.2.2.1 τ.2.2.2 ∧ v = some (.int x)
theorem Px.mk (h : P15 S sc ∧ J 15 = sc.2) (h2 : RM (d + 300) mr (.ref 81 :: as) (S, J, R, z) (Pe sc n x)) : Px d mr as sc n (some (.int x)) (S, J, R, z) := ⟨h, RM_mono h2 (fun _ _ q => ⟨q.1, x, rfl, q.2⟩)⟩
theorem Pe.mk (h : Inv sc n S J R z) : Pe sc n x (some (.int x)) (S, J, R, z) := ⟨h.bump, rfl⟩
end
