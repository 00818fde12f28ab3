theorem sn_cells {args : Array Value} {s : State} (hv : (Jvm.Cond.and given_1 narrow_1).before args s = true) (hts : ∀ w ∈ lw_tbl, w.before args s = true) {A : Nat → Prop} (hA : ∀ a : Nat, a < s.heap.size → ¬ A a) :
    ∃ (t0 t1 : Nat) (q14 : Option Nat) (adK adV : Nat → Nat), va_T .int t0 6 (fun j => .int (kaI j)) A s s.heap ∧ va_T .int t1 4 (fun j => .int (paI j)) A s s.heap ∧ va_Z "HangedWord" "KIND_ABOVE" "[I" (.ref t0) A s s.heap ∧ va_Z "HangedWordModel" "PARTS6" "[I" (.ref t1) A s s.heap ∧ va_Z "java/lang/String" "COMPACT_STRINGS" "Z" (.int 1) A s s.heap ∧ va_Z "jdk/internal/util/Preconditions" "SIOOBE_FORMATTER" "Ljava/util/function/BiFunction;" (va_rf q14) A s s.heap ∧ vk_S 6 stLn stBy adK adV A s s.heap ∧ ∀ i, i < 6 → vk_R "HangedWord$Tape" (stN i) (stX i) (adK i) s := by
  have hs := flat_of_before _ hv
  obtain ⟨t0, e0, T0⟩ := va_Tof (tm := .static "HangedWord" "KIND_ABOVE" "[I") (ty := .int) (N := 6) (f := fun j => .int (kaI j)) (A := A) (by decide) (hs _ (by decide +kernel)) (va_eqt (hs _ (by decide +kernel))) (fun j hj => va_eqt (hs _ (sn_in7 j hj))) hA
  obtain ⟨t1, e1, T1⟩ := va_Tof (tm := .static "HangedWordModel" "PARTS6" "[I") (ty := .int) (N := 4) (f := fun j => .int (paI j)) (A := A) (by decide) (hs _ (by decide +kernel)) (va_eqt (hs _ (by decide +kernel))) (fun j hj => va_eqt (hs _ (sn_in8 j hj))) hA
  have Z0 := va_Zref (hts (.laysStatic "HangedWord" "KIND_ABOVE" "[I") (by decide +kernel)) (hts (.initialized "HangedWord") (by decide +kernel)) e0 hA
  have Z1 := va_Zref (hts (.laysStatic "HangedWordModel" "PARTS6" "[I") (by decide +kernel)) (hts (.initialized "HangedWordModel") (by decide +kernel)) e1 hA
  have Z2 := va_Zof (hts (.laysStatic "java/lang/String" "COMPACT_STRINGS" "Z") (by decide +kernel)) (hts (.initialized "java/lang/String") (by decide +kernel)) (va_eqi (z := 1) (hs _ (by decide +kernel))) hA
  have Z3 : ∃ q14 : Option Nat, va_Z "jdk/internal/util/Preconditions" "SIOOBE_FORMATTER" "Ljava/util/function/BiFunction;" (va_rf q14) A s s.heap := by
    rcases va_Zqof (hts (.laysStatic "jdk/internal/util/Preconditions" "SIOOBE_FORMATTER" "Ljava/util/function/BiFunction;") (by decide +kernel)) (hts (.initialized "jdk/internal/util/Preconditions") (by decide +kernel)) (hs _ (by decide +kernel)) hA with h | ⟨t, h⟩
    · exact ⟨none, h⟩
    · exact ⟨some t, h⟩
  obtain ⟨q14, Z3⟩ := Z3
  have hlen : ∀ i, i < 6 → stLn.getD i 0 < 2 ^ 31 := by decide
  obtain ⟨adK, adV, hK, hE⟩ := vk_Sof (N := 6) (tm := stT) (len := stLn) (byt := stBy) (A := A) hlen (fun i hi => hs _ (sn_in1 i hi)) (fun i hi => hs _ (sn_in2 i hi)) (fun i hi => hs _ (sn_in3 i hi)) (fun i hi => hs _ (sn_in4 i hi)) (fun i hi j hj => hs _ (sn_in5 i hi j hj)) (fun i j hi hj hij => (sn_in6 i hi j hj hij).imp (fun h => hs _ h) (fun h => hs _ h)) hA
  exact ⟨t0, t1, q14, adK, adV, T0, T1, Z0, Z1, Z2, Z3, hK, fun i hi => ⟨by
    have h1 := hts _ (sn_lit i hi)
    simp only [Cond.before, Cond.holds, Cond.value] at h1 ⊢
    exact h1, by
    rw [Term.string_eval_of_vm (args := args) (U := s) rfl]
    exact hE i hi⟩⟩
theorem sn_kinds {args : Array Value} {s : State} (hts : ∀ w ∈ lw_tbl, w.before args s = true) : ∃ (D : va_G) (cK : Nat → ClassId), va_K D aCl [(cK 8, .char), (cK 9, .int), (cK 10, .boolean), (cK 11, .object (aEl 11)), (cK 12, .object (aEl 12)), (cK 13, .object (aEl 13))] s := by
  have h0 : ∀ k, ∃ q : ClassId × (Nat → Nat), k < 8 → u_Kn s (aGet "" aCn k) (aTT k) (aNf k) q.1 q.2 := by
    intro k
    by_cases hk : k < 8
    · obtain ⟨c, iS, h⟩ := u_known (C := aGet "" aCn k) (T := aTT k) (N := aNf k) (n := aNf k) hts (sn_lay k hk) (hts _ (sn_cls k hk))
      exact ⟨(c, iS), fun _ => h⟩
    · exact ⟨(0, fun _ => 0), fun h => absurd h hk⟩
  obtain ⟨ad, had⟩ := Classical.axiomOfChoice h0
  obtain ⟨c8, k8⟩ := an_arr (hts (.arrayClass .char) (by decide +kernel)) (by simp)
  obtain ⟨c9, k9⟩ := an_arr (hts (.arrayClass .int) (by decide +kernel)) (by simp)
  obtain ⟨c10, k10⟩ := an_arr (hts (.arrayClass .boolean) (by decide +kernel)) (by simp)
  obtain ⟨c11, k11⟩ := an_obj (hts (.arrayOver (.object (aEl 11))) (by decide +kernel))
  obtain ⟨c12, k12⟩ := an_obj (hts (.arrayOver (.object (aEl 12))) (by decide +kernel))
  obtain ⟨c13, k13⟩ := an_obj (hts (.arrayOver (.object (aEl 13))) (by decide +kernel))
  refine ⟨(fun k => (ad k).1, fun k => (ad k).2), fun k => if k = 8 then c8 else if k = 9 then c9 else if k = 10 then c10 else if k = 11 then c11 else if k = 12 then c12 else c13, fun k q hq => ?_, fun k q hq => ?_⟩
  · obtain ⟨hk, rfl⟩ := sn_cl k q hq
    exact had k hk
  · have hk : k < 6 := (List.getElem?_eq_some_iff.mp hq).1
    rcases (show k = 0 ∨ k = 1 ∨ k = 2 ∨ k = 3 ∨ k = 4 ∨ k = 5 by omega) with rfl | rfl | rfl | rfl | rfl | rfl <;> cases hq
    · exact k8
    · exact k9
    · exact k10
    · exact k11
    · exact k12
    · exact k13
