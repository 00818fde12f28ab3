/-! the law's loop -/
section
variable {d n i L : Nat} {sc : (Nat × Nat) × (Nat → Int32)} {S : Nat → Nat × Nat} {I : Nat → Nat → Int32} {R : Nat → Nat → Option Nat} {z : Nat × Nat} {Q : Option Value → HS → Prop}
theorem q77 (h : Inv sc n S I R z) (hl : sc.1 = (9, L)) (hL : L ≤ 3072) (hi : i + 6 ≤ L) (hQ : ∀ S' J R' z', Inv sc (n + 1) S' J R' z' → RB (d + 300) 251 18 [.ref 15, .ref 16, .ref 81, .int (nI (i + 6))] [] (S', J, R', z') Q) : RB (d + 300) 251 228 [.ref 15, .ref 16, .ref 81, .int (nI i)] [] (S, I, R, z) Q := by
  have s15 : S 15 = (9, L) := h.1.1.1.trans hl
  have s16 : S 16 = (6, 10) := h.1.1.2.1
  have i15 : I 15 = sc.2 := h.1.2
  simp (disch := omega) only [w251_228, w251_228N, w251_229, w251_229N, w251_230, w251_231, w251_232, w251_233, w251_234, w251_234N, w251_235, w251_236, w251_237, w251_238, w251_239, s15, s16, i15, aPush_s, aPush_n, vrf_s, vrf_n, true_and, and_true, false_and, and_false, true_imp_iff, false_imp_iff, not_true_eq_false, not_false_eq_true, eq_self, true_or, or_true, and_self, if_true, if_false, n_lit, n_of, n_an, nI_add, n_cl, n_ixT, le_T, Nat.reduceAdd, Nat.reduceLeDiff, Nat.add_assoc]
  refine RM_mono (p77 h) ?_
  rintro v ⟨S', J, R', z'⟩ ⟨⟨⟨k1, k2, k3⟩, k4⟩, hr⟩
  obtain ⟨n0, v2, τ2, hrun, hI, y, hv, hv2⟩ := id hr
  subst hv
  have t15 : S' 15 = (9, L) := k1.trans hl
  have t81 : S' 81 = (7, 33) := k3
  have j15 : J 15 = sc.2 := k4
  simp (disch := omega) only [w251_242, w251_242N, w251_243, w251_243N, w251_244, w251_245, w251_246, w251_247, w251_248, w251_248N, w251_249, w251_250, w251_251, w251_252, w251_253, t15, t81, j15, aPush_s, aPush_n, vrf_s, vrf_n, true_and, and_true, false_and, and_false, true_imp_iff, false_imp_iff, not_true_eq_false, not_false_eq_true, eq_self, true_or, or_true, and_self, if_true, if_false, n_lit, n_of, n_an, nI_add, n_cl, n_ixT, le_T, Nat.reduceAdd, Nat.reduceLeDiff, Nat.add_assoc]
  refine RM_mono hr ?_
  rintro v ⟨S3, J3, R3, z3⟩ ⟨hI3, y3, e1, e2⟩
  subst e2
  cases e1
  simp (disch := omega) only [w251_256, w251_1523, w251_1526, w251_1529, w251_1530, aPush_s, aPush_n, vrf_s, vrf_n, true_and, and_true, false_and, and_false, true_imp_iff, false_imp_iff, not_true_eq_false, not_false_eq_true, eq_self, true_or, or_true, and_self, if_true, if_false, n_lit, n_of, n_an, nI_add, n_cl, n_ixT, le_T, Nat.reduceAdd, Nat.reduceLeDiff, Nat.add_assoc]
  exact hQ S3 J3 R3 z3 hI3
theorem q78 (h : Inv sc n S I R z) (hl : sc.1 = (9, L)) (hL : L ≤ 3072) (hi : i + 6 ≤ L) (hQ : ∀ S' J R' z', Inv sc (n + 1) S' J R' z' → RB (d + 300) 251 18 [.ref 15, .ref 16, .ref 81, .int (nI (i + 6))] [] (S', J, R', z') Q) : RB (d + 300) 251 261 [.ref 15, .ref 16, .ref 81, .int (nI i)] [] (S, I, R, z) Q := by
  have s15 : S 15 = (9, L) := h.1.1.1.trans hl
  have s16 : S 16 = (6, 10) := h.1.1.2.1
  have i15 : I 15 = sc.2 := h.1.2
  simp (disch := omega) only [w251_261, w251_261N, w251_262, w251_262N, w251_263, w251_264, w251_265, w251_266, w251_267, w251_267N, w251_268, w251_269, w251_270, w251_271, w251_272, s15, s16, i15, aPush_s, aPush_n, vrf_s, vrf_n, true_and, and_true, false_and, and_false, true_imp_iff, false_imp_iff, not_true_eq_false, not_false_eq_true, eq_self, true_or, or_true, and_self, if_true, if_false, n_lit, n_of, n_an, nI_add, n_cl, n_ixT, le_T, Nat.reduceAdd, Nat.reduceLeDiff, Nat.add_assoc]
  refine RM_mono (p78 h) ?_
  rintro v ⟨S', J, R', z'⟩ ⟨⟨⟨k1, k2, k3⟩, k4⟩, hr⟩
  obtain ⟨n0, v2, τ2, hrun, hI, y, hv, hv2⟩ := id hr
  subst hv
  have t15 : S' 15 = (9, L) := k1.trans hl
  have t81 : S' 81 = (7, 33) := k3
  have j15 : J 15 = sc.2 := k4
  simp (disch := omega) only [w251_275, w251_275N, w251_276, w251_276N, w251_277, w251_278, w251_279, w251_280, w251_281, w251_281N, w251_282, w251_283, w251_284, w251_285, w251_286, t15, t81, j15, aPush_s, aPush_n, vrf_s, vrf_n, true_and, and_true, false_and, and_false, true_imp_iff, false_imp_iff, not_true_eq_false, not_false_eq_true, eq_self, true_or, or_true, and_self, if_true, if_false, n_lit, n_of, n_an, nI_add, n_cl, n_ixT, le_T, Nat.reduceAdd, Nat.reduceLeDiff, Nat.add_assoc]
  refine RM_mono hr ?_
  rintro v ⟨S3, J3, R3, z3⟩ ⟨hI3, y3, e1, e2⟩
  subst e2
  cases e1
  simp (disch := omega) only [w251_289, w251_1523, w251_1526, w251_1529, w251_1530, aPush_s, aPush_n, vrf_s, vrf_n, true_and, and_true, false_and, and_false, true_imp_iff, false_imp_iff, not_true_eq_false, not_false_eq_true, eq_self, true_or, or_true, and_self, if_true, if_false, n_lit, n_of, n_an, nI_add, n_cl, n_ixT, le_T, Nat.reduceAdd, Nat.reduceLeDiff, Nat.add_assoc]
  exact hQ S3 J3 R3 z3 hI3
theorem q79 (h : Inv sc n S I R z) (hl : sc.1 = (9, L)) (hL : L ≤ 3072) (hi : i + 6 ≤ L) (hQ : ∀ S' J R' z', Inv sc (n + 1) S' J R' z' → RB (d + 300) 251 18 [.ref 15, .ref 16, .ref 81, .int (nI (i + 6))] [] (S', J, R', z') Q) : RB (d + 300) 251 294 [.ref 15, .ref 16, .ref 81, .int (nI i)] [] (S, I, R, z) Q := by
  have s15 : S 15 = (9, L) := h.1.1.1.trans hl
  have s16 : S 16 = (6, 10) := h.1.1.2.1
  have i15 : I 15 = sc.2 := h.1.2
  simp (disch := omega) only [w251_294, w251_294N, w251_295, w251_295N, w251_296, w251_297, w251_298, w251_299, w251_300, w251_300N, w251_301, w251_302, w251_303, w251_304, w251_305, s15, s16, i15, aPush_s, aPush_n, vrf_s, vrf_n, true_and, and_true, false_and, and_false, true_imp_iff, false_imp_iff, not_true_eq_false, not_false_eq_true, eq_self, true_or, or_true, and_self, if_true, if_false, n_lit, n_of, n_an, nI_add, n_cl, n_ixT, le_T, Nat.reduceAdd, Nat.reduceLeDiff, Nat.add_assoc]
  refine RM_mono (p79 h) ?_
  rintro v ⟨S', J, R', z'⟩ ⟨⟨⟨k1, k2, k3⟩, k4⟩, hr⟩
  obtain ⟨n0, v2, τ2, hrun, hI, y, hv, hv2⟩ := id hr
  subst hv
  have t15 : S' 15 = (9, L) := k1.trans hl
  have t81 : S' 81 = (7, 33) := k3
  have j15 : J 15 = sc.2 := k4
  simp (disch := omega) only [w251_308, w251_308N, w251_309, w251_309N, w251_310, w251_311, w251_312, w251_313, w251_314, w251_314N, w251_315, w251_316, w251_317, w251_318, w251_319, t15, t81, j15, aPush_s, aPush_n, vrf_s, vrf_n, true_and, and_true, false_and, and_false, true_imp_iff, false_imp_iff, not_true_eq_false, not_false_eq_true, eq_self, true_or, or_true, and_self, if_true, if_false, n_lit, n_of, n_an, nI_add, n_cl, n_ixT, le_T, Nat.reduceAdd, Nat.reduceLeDiff, Nat.add_assoc]
  refine RM_mono hr ?_
  rintro v ⟨S3, J3, R3, z3⟩ ⟨hI3, y3, e1, e2⟩
  subst e2
  cases e1
  simp (disch := omega) only [w251_322, w251_1523, w251_1526, w251_1529, w251_1530, aPush_s, aPush_n, vrf_s, vrf_n, true_and, and_true, false_and, and_false, true_imp_iff, false_imp_iff, not_true_eq_false, not_false_eq_true, eq_self, true_or, or_true, and_self, if_true, if_false, n_lit, n_of, n_an, nI_add, n_cl, n_ixT, le_T, Nat.reduceAdd, Nat.reduceLeDiff, Nat.add_assoc]
  exact hQ S3 J3 R3 z3 hI3
theorem q80 (h : Inv sc n S I R z) (hl : sc.1 = (9, L)) (hL : L ≤ 3072) (hi : i + 6 ≤ L) (hQ : ∀ S' J R' z', Inv sc (n + 1) S' J R' z' → RB (d + 300) 251 18 [.ref 15, .ref 16, .ref 81, .int (nI (i + 6))] [] (S', J, R', z') Q) : RB (d + 300) 251 327 [.ref 15, .ref 16, .ref 81, .int (nI i)] [] (S, I, R, z) Q := by
  have s15 : S 15 = (9, L) := h.1.1.1.trans hl
  have s16 : S 16 = (6, 10) := h.1.1.2.1
  have i15 : I 15 = sc.2 := h.1.2
  simp (disch := omega) only [w251_327, w251_327N, w251_328, w251_328N, w251_329, w251_330, w251_331, w251_332, w251_333, w251_333N, w251_334, w251_335, w251_336, w251_337, w251_338, s15, s16, i15, aPush_s, aPush_n, vrf_s, vrf_n, true_and, and_true, false_and, and_false, true_imp_iff, false_imp_iff, not_true_eq_false, not_false_eq_true, eq_self, true_or, or_true, and_self, if_true, if_false, n_lit, n_of, n_an, nI_add, n_cl, n_ixT, le_T, Nat.reduceAdd, Nat.reduceLeDiff, Nat.add_assoc]
  refine RM_mono (p80 h) ?_
  rintro v ⟨S', J, R', z'⟩ ⟨⟨⟨k1, k2, k3⟩, k4⟩, hr⟩
  obtain ⟨n0, v2, τ2, hrun, hI, y, hv, hv2⟩ := id hr
  subst hv
  have t15 : S' 15 = (9, L) := k1.trans hl
  have t81 : S' 81 = (7, 33) := k3
  have j15 : J 15 = sc.2 := k4
  simp (disch := omega) only [w251_341, w251_341N, w251_342, w251_342N, w251_343, w251_344, w251_345, w251_346, w251_347, w251_347N, w251_348, w251_349, w251_350, w251_351, w251_352, t15, t81, j15, aPush_s, aPush_n, vrf_s, vrf_n, true_and, and_true, false_and, and_false, true_imp_iff, false_imp_iff, not_true_eq_false, not_false_eq_true, eq_self, true_or, or_true, and_self, if_true, if_false, n_lit, n_of, n_an, nI_add, n_cl, n_ixT, le_T, Nat.reduceAdd, Nat.reduceLeDiff, Nat.add_assoc]
  refine RM_mono hr ?_
  rintro v ⟨S3, J3, R3, z3⟩ ⟨hI3, y3, e1, e2⟩
  subst e2
  cases e1
  simp (disch := omega) only [w251_355, w251_1523, w251_1526, w251_1529, w251_1530, aPush_s, aPush_n, vrf_s, vrf_n, true_and, and_true, false_and, and_false, true_imp_iff, false_imp_iff, not_true_eq_false, not_false_eq_true, eq_self, true_or, or_true, and_self, if_true, if_false, n_lit, n_of, n_an, nI_add, n_cl, n_ixT, le_T, Nat.reduceAdd, Nat.reduceLeDiff, Nat.add_assoc]
  exact hQ S3 J3 R3 z3 hI3
theorem q81 (h : Inv sc n S I R z) (hl : sc.1 = (9, L)) (hL : L ≤ 3072) (hi : i + 6 ≤ L) (hQ : ∀ S' J R' z', Inv sc (n + 1) S' J R' z' → RB (d + 300) 251 18 [.ref 15, .ref 16, .ref 81, .int (nI (i + 6))] [] (S', J, R', z') Q) : RB (d + 300) 251 360 [.ref 15, .ref 16, .ref 81, .int (nI i)] [] (S, I, R, z) Q := by
  have s15 : S 15 = (9, L) := h.1.1.1.trans hl
  have s16 : S 16 = (6, 10) := h.1.1.2.1
  have i15 : I 15 = sc.2 := h.1.2
  simp (disch := omega) only [w251_360, w251_360N, w251_361, w251_361N, w251_362, w251_363, w251_364, w251_365, w251_366, w251_366N, w251_367, w251_368, w251_369, w251_370, w251_371, s15, s16, i15, aPush_s, aPush_n, vrf_s, vrf_n, true_and, and_true, false_and, and_false, true_imp_iff, false_imp_iff, not_true_eq_false, not_false_eq_true, eq_self, true_or, or_true, and_self, if_true, if_false, n_lit, n_of, n_an, nI_add, n_cl, n_ixT, le_T, Nat.reduceAdd, Nat.reduceLeDiff, Nat.add_assoc]
  refine RM_mono (p81 h) ?_
  rintro v ⟨S', J, R', z'⟩ ⟨⟨⟨k1, k2, k3⟩, k4⟩, hr⟩
  obtain ⟨n0, v2, τ2, hrun, hI, y, hv, hv2⟩ := id hr
  subst hv
  have t15 : S' 15 = (9, L) := k1.trans hl
  have t81 : S' 81 = (7, 33) := k3
  have j15 : J 15 = sc.2 := k4
  simp (disch := omega) only [w251_374, w251_374N, w251_375, w251_375N, w251_376, w251_377, w251_378, w251_379, w251_380, w251_380N, w251_381, w251_382, w251_383, w251_384, w251_385, t15, t81, j15, aPush_s, aPush_n, vrf_s, vrf_n, true_and, and_true, false_and, and_false, true_imp_iff, false_imp_iff, not_true_eq_false, not_false_eq_true, eq_self, true_or, or_true, and_self, if_true, if_false, n_lit, n_of, n_an, nI_add, n_cl, n_ixT, le_T, Nat.reduceAdd, Nat.reduceLeDiff, Nat.add_assoc]
  refine RM_mono hr ?_
  rintro v ⟨S3, J3, R3, z3⟩ ⟨hI3, y3, e1, e2⟩
  subst e2
  cases e1
  simp (disch := omega) only [w251_388, w251_1523, w251_1526, w251_1529, w251_1530, aPush_s, aPush_n, vrf_s, vrf_n, true_and, and_true, false_and, and_false, true_imp_iff, false_imp_iff, not_true_eq_false, not_false_eq_true, eq_self, true_or, or_true, and_self, if_true, if_false, n_lit, n_of, n_an, nI_add, n_cl, n_ixT, le_T, Nat.reduceAdd, Nat.reduceLeDiff, Nat.add_assoc]
  exact hQ S3 J3 R3 z3 hI3
theorem q82 (h : Inv sc n S I R z) (hl : sc.1 = (9, L)) (hL : L ≤ 3072) (hi : i + 6 ≤ L) (hQ : ∀ S' J R' z', Inv sc (n + 1) S' J R' z' → RB (d + 300) 251 18 [.ref 15, .ref 16, .ref 81, .int (nI (i + 6))] [] (S', J, R', z') Q) : RB (d + 300) 251 393 [.ref 15, .ref 16, .ref 81, .int (nI i)] [] (S, I, R, z) Q := by
  have s15 : S 15 = (9, L) := h.1.1.1.trans hl
  have s16 : S 16 = (6, 10) := h.1.1.2.1
  have i15 : I 15 = sc.2 := h.1.2
  simp (disch := omega) only [w251_393, w251_393N, w251_394, w251_394N, w251_395, w251_396, w251_397, w251_398, w251_399, w251_399N, w251_400, w251_401, w251_402, w251_403, w251_404, s15, s16, i15, aPush_s, aPush_n, vrf_s, vrf_n, true_and, and_true, false_and, and_false, true_imp_iff, false_imp_iff, not_true_eq_false, not_false_eq_true, eq_self, true_or, or_true, and_self, if_true, if_false, n_lit, n_of, n_an, nI_add, n_cl, n_ixT, le_T, Nat.reduceAdd, Nat.reduceLeDiff, Nat.add_assoc]
  refine RM_mono (p82 h) ?_
  rintro v ⟨S', J, R', z'⟩ ⟨⟨⟨k1, k2, k3⟩, k4⟩, hr⟩
  obtain ⟨n0, v2, τ2, hrun, hI, y, hv, hv2⟩ := id hr
  subst hv
  have t15 : S' 15 = (9, L) := k1.trans hl
  have t81 : S' 81 = (7, 33) := k3
  have j15 : J 15 = sc.2 := k4
  simp (disch := omega) only [w251_407, w251_407N, w251_408, w251_408N, w251_409, w251_410, w251_411, w251_412, w251_413, w251_413N, w251_414, w251_415, w251_416, w251_417, w251_418, t15, t81, j15, aPush_s, aPush_n, vrf_s, vrf_n, true_and, and_true, false_and, and_false, true_imp_iff, false_imp_iff, not_true_eq_false, not_false_eq_true, eq_self, true_or, or_true, and_self, if_true, if_false, n_lit, n_of, n_an, nI_add, n_cl, n_ixT, le_T, Nat.reduceAdd, Nat.reduceLeDiff, Nat.add_assoc]
  refine RM_mono hr ?_
  rintro v ⟨S3, J3, R3, z3⟩ ⟨hI3, y3, e1, e2⟩
  subst e2
  cases e1
  simp (disch := omega) only [w251_421, w251_1523, w251_1526, w251_1529, w251_1530, aPush_s, aPush_n, vrf_s, vrf_n, true_and, and_true, false_and, and_false, true_imp_iff, false_imp_iff, not_true_eq_false, not_false_eq_true, eq_self, true_or, or_true, and_self, if_true, if_false, n_lit, n_of, n_an, nI_add, n_cl, n_ixT, le_T, Nat.reduceAdd, Nat.reduceLeDiff, Nat.add_assoc]
  exact hQ S3 J3 R3 z3 hI3
theorem q83 (h : Inv sc n S I R z) (hl : sc.1 = (9, L)) (hL : L ≤ 3072) (hi : i + 6 ≤ L) (hQ : ∀ S' J R' z', Inv sc (n + 1) S' J R' z' → RB (d + 300) 251 18 [.ref 15, .ref 16, .ref 81, .int (nI (i + 6))] [] (S', J, R', z') Q) : RB (d + 300) 251 426 [.ref 15, .ref 16, .ref 81, .int (nI i)] [] (S, I, R, z) Q := by
  have s15 : S 15 = (9, L) := h.1.1.1.trans hl
  have s16 : S 16 = (6, 10) := h.1.1.2.1
  have i15 : I 15 = sc.2 := h.1.2
  simp (disch := omega) only [w251_426, w251_426N, w251_427, w251_427N, w251_428, w251_429, w251_430, w251_431, w251_432, w251_432N, w251_433, w251_434, w251_435, w251_436, w251_437, s15, s16, i15, aPush_s, aPush_n, vrf_s, vrf_n, true_and, and_true, false_and, and_false, true_imp_iff, false_imp_iff, not_true_eq_false, not_false_eq_true, eq_self, true_or, or_true, and_self, if_true, if_false, n_lit, n_of, n_an, nI_add, n_cl, n_ixT, le_T, Nat.reduceAdd, Nat.reduceLeDiff, Nat.add_assoc]
  refine RM_mono (p83 h) ?_
  rintro v ⟨S', J, R', z'⟩ ⟨⟨⟨k1, k2, k3⟩, k4⟩, hr⟩
  obtain ⟨n0, v2, τ2, hrun, hI, y, hv, hv2⟩ := id hr
  subst hv
  have t15 : S' 15 = (9, L) := k1.trans hl
  have t81 : S' 81 = (7, 33) := k3
  have j15 : J 15 = sc.2 := k4
  simp (disch := omega) only [w251_440, w251_440N, w251_441, w251_441N, w251_442, w251_443, w251_444, w251_445, w251_446, w251_446N, w251_447, w251_448, w251_449, w251_450, w251_451, t15, t81, j15, aPush_s, aPush_n, vrf_s, vrf_n, true_and, and_true, false_and, and_false, true_imp_iff, false_imp_iff, not_true_eq_false, not_false_eq_true, eq_self, true_or, or_true, and_self, if_true, if_false, n_lit, n_of, n_an, nI_add, n_cl, n_ixT, le_T, Nat.reduceAdd, Nat.reduceLeDiff, Nat.add_assoc]
  refine RM_mono hr ?_
  rintro v ⟨S3, J3, R3, z3⟩ ⟨hI3, y3, e1, e2⟩
  subst e2
  cases e1
  simp (disch := omega) only [w251_454, w251_1523, w251_1526, w251_1529, w251_1530, aPush_s, aPush_n, vrf_s, vrf_n, true_and, and_true, false_and, and_false, true_imp_iff, false_imp_iff, not_true_eq_false, not_false_eq_true, eq_self, true_or, or_true, and_self, if_true, if_false, n_lit, n_of, n_an, nI_add, n_cl, n_ixT, le_T, Nat.reduceAdd, Nat.reduceLeDiff, Nat.add_assoc]
  exact hQ S3 J3 R3 z3 hI3
theorem q84 (h : Inv sc n S I R z) (hl : sc.1 = (9, L)) (hL : L ≤ 3072) (hi : i + 6 ≤ L) (hQ : ∀ S' J R' z', Inv sc (n + 1) S' J R' z' → RB (d + 300) 251 18 [.ref 15, .ref 16, .ref 81, .int (nI (i + 6))] [] (S', J, R', z') Q) : RB (d + 300) 251 459 [.ref 15, .ref 16, .ref 81, .int (nI i)] [] (S, I, R, z) Q := by
  have s15 : S 15 = (9, L) := h.1.1.1.trans hl
  have s16 : S 16 = (6, 10) := h.1.1.2.1
  have i15 : I 15 = sc.2 := h.1.2
  simp (disch := omega) only [w251_459, w251_459N, w251_460, w251_460N, w251_461, w251_462, w251_463, w251_464, w251_465, w251_465N, w251_466, w251_467, w251_468, w251_469, w251_470, s15, s16, i15, aPush_s, aPush_n, vrf_s, vrf_n, true_and, and_true, false_and, and_false, true_imp_iff, false_imp_iff, not_true_eq_false, not_false_eq_true, eq_self, true_or, or_true, and_self, if_true, if_false, n_lit, n_of, n_an, nI_add, n_cl, n_ixT, le_T, Nat.reduceAdd, Nat.reduceLeDiff, Nat.add_assoc]
  refine RM_mono (p84 h) ?_
  rintro v ⟨S', J, R', z'⟩ ⟨⟨⟨k1, k2, k3⟩, k4⟩, hr⟩
  obtain ⟨n0, v2, τ2, hrun, hI, y, hv, hv2⟩ := id hr
  subst hv
  have t15 : S' 15 = (9, L) := k1.trans hl
  have t81 : S' 81 = (7, 33) := k3
  have j15 : J 15 = sc.2 := k4
  simp (disch := omega) only [w251_473, w251_473N, w251_474, w251_474N, w251_475, w251_476, w251_477, w251_478, w251_479, w251_479N, w251_480, w251_481, w251_482, w251_483, w251_484, t15, t81, j15, aPush_s, aPush_n, vrf_s, vrf_n, true_and, and_true, false_and, and_false, true_imp_iff, false_imp_iff, not_true_eq_false, not_false_eq_true, eq_self, true_or, or_true, and_self, if_true, if_false, n_lit, n_of, n_an, nI_add, n_cl, n_ixT, le_T, Nat.reduceAdd, Nat.reduceLeDiff, Nat.add_assoc]
  refine RM_mono hr ?_
  rintro v ⟨S3, J3, R3, z3⟩ ⟨hI3, y3, e1, e2⟩
  subst e2
  cases e1
  simp (disch := omega) only [w251_487, w251_1523, w251_1526, w251_1529, w251_1530, aPush_s, aPush_n, vrf_s, vrf_n, true_and, and_true, false_and, and_false, true_imp_iff, false_imp_iff, not_true_eq_false, not_false_eq_true, eq_self, true_or, or_true, and_self, if_true, if_false, n_lit, n_of, n_an, nI_add, n_cl, n_ixT, le_T, Nat.reduceAdd, Nat.reduceLeDiff, Nat.add_assoc]
  exact hQ S3 J3 R3 z3 hI3
theorem q85 (h : Inv sc n S I R z) (hl : sc.1 = (9, L)) (hL : L ≤ 3072) (hi : i + 6 ≤ L) (hQ : ∀ S' J R' z', Inv sc (n + 1) S' J R' z' → RB (d + 300) 251 18 [.ref 15, .ref 16, .ref 81, .int (nI (i + 6))] [] (S', J, R', z') Q) : RB (d + 300) 251 492 [.ref 15, .ref 16, .ref 81, .int (nI i)] [] (S, I, R, z) Q := by
  have s15 : S 15 = (9, L) := h.1.1.1.trans hl
  have s16 : S 16 = (6, 10) := h.1.1.2.1
  have i15 : I 15 = sc.2 := h.1.2
  simp (disch := omega) only [w251_492, w251_492N, w251_493, w251_493N, w251_494, w251_495, w251_496, w251_497, w251_498, w251_498N, w251_499, w251_500, w251_501, w251_502, w251_503, s15, s16, i15, aPush_s, aPush_n, vrf_s, vrf_n, true_and, and_true, false_and, and_false, true_imp_iff, false_imp_iff, not_true_eq_false, not_false_eq_true, eq_self, true_or, or_true, and_self, if_true, if_false, n_lit, n_of, n_an, nI_add, n_cl, n_ixT, le_T, Nat.reduceAdd, Nat.reduceLeDiff, Nat.add_assoc]
  refine RM_mono (p85 h) ?_
  rintro v ⟨S', J, R', z'⟩ ⟨⟨⟨k1, k2, k3⟩, k4⟩, hr⟩
  obtain ⟨n0, v2, τ2, hrun, hI, y, hv, hv2⟩ := id hr
  subst hv
  have t15 : S' 15 = (9, L) := k1.trans hl
  have t81 : S' 81 = (7, 33) := k3
  have j15 : J 15 = sc.2 := k4
  simp (disch := omega) only [w251_506, w251_506N, w251_507, w251_507N, w251_508, w251_509, w251_510, w251_511, w251_512, w251_512N, w251_513, w251_514, w251_515, w251_516, w251_517, t15, t81, j15, aPush_s, aPush_n, vrf_s, vrf_n, true_and, and_true, false_and, and_false, true_imp_iff, false_imp_iff, not_true_eq_false, not_false_eq_true, eq_self, true_or, or_true, and_self, if_true, if_false, n_lit, n_of, n_an, nI_add, n_cl, n_ixT, le_T, Nat.reduceAdd, Nat.reduceLeDiff, Nat.add_assoc]
  refine RM_mono hr ?_
  rintro v ⟨S3, J3, R3, z3⟩ ⟨hI3, y3, e1, e2⟩
  subst e2
  cases e1
  simp (disch := omega) only [w251_520, w251_1523, w251_1526, w251_1529, w251_1530, aPush_s, aPush_n, vrf_s, vrf_n, true_and, and_true, false_and, and_false, true_imp_iff, false_imp_iff, not_true_eq_false, not_false_eq_true, eq_self, true_or, or_true, and_self, if_true, if_false, n_lit, n_of, n_an, nI_add, n_cl, n_ixT, le_T, Nat.reduceAdd, Nat.reduceLeDiff, Nat.add_assoc]
  exact hQ S3 J3 R3 z3 hI3
theorem q86 (h : Inv sc n S I R z) (hl : sc.1 = (9, L)) (hL : L ≤ 3072) (hi : i + 6 ≤ L) (hQ : ∀ S' J R' z', Inv sc (n + 1) S' J R' z' → RB (d + 300) 251 18 [.ref 15, .ref 16, .ref 81, .int (nI (i + 6))] [] (S', J, R', z') Q) : RB (d + 300) 251 525 [.ref 15, .ref 16, .ref 81, .int (nI i)] [] (S, I, R, z) Q := by
  have s15 : S 15 = (9, L) := h.1.1.1.trans hl
  have s16 : S 16 = (6, 10) := h.1.1.2.1
  have i15 : I 15 = sc.2 := h.1.2
  simp (disch := omega) only [w251_525, w251_525N, w251_526, w251_526N, w251_527, w251_528, w251_529, w251_530, w251_531, s15, s16, i15, aPush_s, aPush_n, vrf_s, vrf_n, true_and, and_true, false_and, and_false, true_imp_iff, false_imp_iff, not_true_eq_false, not_false_eq_true, eq_self, true_or, or_true, and_self, if_true, if_false, n_lit, n_of, n_an, nI_add, n_cl, n_ixT, le_T, Nat.reduceAdd, Nat.reduceLeDiff, Nat.add_assoc]
  refine RM_mono (p86 h) ?_
  rintro v ⟨S', J, R', z'⟩ ⟨⟨⟨k1, k2, k3⟩, k4⟩, hr⟩
  obtain ⟨n0, v2, τ2, hrun, hI, y, hv, hv2⟩ := id hr
  subst hv
  have t15 : S' 15 = (9, L) := k1.trans hl
  have t81 : S' 81 = (7, 33) := k3
  have j15 : J 15 = sc.2 := k4
  simp (disch := omega) only [w251_534, w251_534N, w251_535, w251_535N, w251_536, w251_537, w251_538, w251_539, w251_540, t15, t81, j15, aPush_s, aPush_n, vrf_s, vrf_n, true_and, and_true, false_and, and_false, true_imp_iff, false_imp_iff, not_true_eq_false, not_false_eq_true, eq_self, true_or, or_true, and_self, if_true, if_false, n_lit, n_of, n_an, nI_add, n_cl, n_ixT, le_T, Nat.reduceAdd, Nat.reduceLeDiff, Nat.add_assoc]
  refine RM_mono hr ?_
  rintro v ⟨S3, J3, R3, z3⟩ ⟨hI3, y3, e1, e2⟩
  subst e2
  cases e1
  simp (disch := omega) only [w251_543, w251_1523, w251_1526, w251_1529, w251_1530, aPush_s, aPush_n, vrf_s, vrf_n, true_and, and_true, false_and, and_false, true_imp_iff, false_imp_iff, not_true_eq_false, not_false_eq_true, eq_self, true_or, or_true, and_self, if_true, if_false, n_lit, n_of, n_an, nI_add, n_cl, n_ixT, le_T, Nat.reduceAdd, Nat.reduceLeDiff, Nat.add_assoc]
  exact hQ S3 J3 R3 z3 hI3
theorem q87 (h : Inv sc n S I R z) (hl : sc.1 = (9, L)) (hL : L ≤ 3072) (hi : i + 6 ≤ L) (hQ : ∀ S' J R' z', Inv sc (n + 1) S' J R' z' → RB (d + 300) 251 18 [.ref 15, .ref 16, .ref 81, .int (nI (i + 6))] [] (S', J, R', z') Q) : RB (d + 300) 251 548 [.ref 15, .ref 16, .ref 81, .int (nI i)] [] (S, I, R, z) Q := by
  have s15 : S 15 = (9, L) := h.1.1.1.trans hl
  have s16 : S 16 = (6, 10) := h.1.1.2.1
  have i15 : I 15 = sc.2 := h.1.2
  simp (disch := omega) only [w251_548, w251_548N, w251_549, w251_549N, w251_550, w251_551, w251_552, w251_553, w251_554, s15, s16, i15, aPush_s, aPush_n, vrf_s, vrf_n, true_and, and_true, false_and, and_false, true_imp_iff, false_imp_iff, not_true_eq_false, not_false_eq_true, eq_self, true_or, or_true, and_self, if_true, if_false, n_lit, n_of, n_an, nI_add, n_cl, n_ixT, le_T, Nat.reduceAdd, Nat.reduceLeDiff, Nat.add_assoc]
  refine RM_mono (p87 h) ?_
  rintro v ⟨S', J, R', z'⟩ ⟨⟨⟨k1, k2, k3⟩, k4⟩, hr⟩
  obtain ⟨n0, v2, τ2, hrun, hI, y, hv, hv2⟩ := id hr
  subst hv
  have t15 : S' 15 = (9, L) := k1.trans hl
  have t81 : S' 81 = (7, 33) := k3
  have j15 : J 15 = sc.2 := k4
  simp (disch := omega) only [w251_557, w251_557N, w251_558, w251_558N, w251_559, w251_560, w251_561, w251_562, w251_563, t15, t81, j15, aPush_s, aPush_n, vrf_s, vrf_n, true_and, and_true, false_and, and_false, true_imp_iff, false_imp_iff, not_true_eq_false, not_false_eq_true, eq_self, true_or, or_true, and_self, if_true, if_false, n_lit, n_of, n_an, nI_add, n_cl, n_ixT, le_T, Nat.reduceAdd, Nat.reduceLeDiff, Nat.add_assoc]
  refine RM_mono hr ?_
  rintro v ⟨S3, J3, R3, z3⟩ ⟨hI3, y3, e1, e2⟩
  subst e2
  cases e1
  simp (disch := omega) only [w251_566, w251_1523, w251_1526, w251_1529, w251_1530, aPush_s, aPush_n, vrf_s, vrf_n, true_and, and_true, false_and, and_false, true_imp_iff, false_imp_iff, not_true_eq_false, not_false_eq_true, eq_self, true_or, or_true, and_self, if_true, if_false, n_lit, n_of, n_an, nI_add, n_cl, n_ixT, le_T, Nat.reduceAdd, Nat.reduceLeDiff, Nat.add_assoc]
  exact hQ S3 J3 R3 z3 hI3
theorem q88 (h : Inv sc n S I R z) (hl : sc.1 = (9, L)) (hL : L ≤ 3072) (hi : i + 6 ≤ L) (hQ : ∀ S' J R' z', Inv sc (n + 1) S' J R' z' → RB (d + 300) 251 18 [.ref 15, .ref 16, .ref 81, .int (nI (i + 6))] [] (S', J, R', z') Q) : RB (d + 300) 251 571 [.ref 15, .ref 16, .ref 81, .int (nI i)] [] (S, I, R, z) Q := by
  have s15 : S 15 = (9, L) := h.1.1.1.trans hl
  have s16 : S 16 = (6, 10) := h.1.1.2.1
  have i15 : I 15 = sc.2 := h.1.2
  simp (disch := omega) only [w251_571, w251_571N, w251_572, w251_572N, w251_573, w251_574, w251_575, w251_576, w251_577, s15, s16, i15, aPush_s, aPush_n, vrf_s, vrf_n, true_and, and_true, false_and, and_false, true_imp_iff, false_imp_iff, not_true_eq_false, not_false_eq_true, eq_self, true_or, or_true, and_self, if_true, if_false, n_lit, n_of, n_an, nI_add, n_cl, n_ixT, le_T, Nat.reduceAdd, Nat.reduceLeDiff, Nat.add_assoc]
  refine RM_mono (p88 h) ?_
  rintro v ⟨S', J, R', z'⟩ ⟨⟨⟨k1, k2, k3⟩, k4⟩, hr⟩
  obtain ⟨n0, v2, τ2, hrun, hI, y, hv, hv2⟩ := id hr
  subst hv
  have t15 : S' 15 = (9, L) := k1.trans hl
  have t81 : S' 81 = (7, 33) := k3
  have j15 : J 15 = sc.2 := k4
  simp (disch := omega) only [w251_580, w251_580N, w251_581, w251_581N, w251_582, w251_583, w251_584, w251_585, w251_586, t15, t81, j15, aPush_s, aPush_n, vrf_s, vrf_n, true_and, and_true, false_and, and_false, true_imp_iff, false_imp_iff, not_true_eq_false, not_false_eq_true, eq_self, true_or, or_true, and_self, if_true, if_false, n_lit, n_of, n_an, nI_add, n_cl, n_ixT, le_T, Nat.reduceAdd, Nat.reduceLeDiff, Nat.add_assoc]
  refine RM_mono hr ?_
  rintro v ⟨S3, J3, R3, z3⟩ ⟨hI3, y3, e1, e2⟩
  subst e2
  cases e1
  simp (disch := omega) only [w251_589, w251_1523, w251_1526, w251_1529, w251_1530, aPush_s, aPush_n, vrf_s, vrf_n, true_and, and_true, false_and, and_false, true_imp_iff, false_imp_iff, not_true_eq_false, not_false_eq_true, eq_self, true_or, or_true, and_self, if_true, if_false, n_lit, n_of, n_an, nI_add, n_cl, n_ixT, le_T, Nat.reduceAdd, Nat.reduceLeDiff, Nat.add_assoc]
  exact hQ S3 J3 R3 z3 hI3
theorem q89 (h : Inv sc n S I R z) (hl : sc.1 = (9, L)) (hL : L ≤ 3072) (hi : i + 6 ≤ L) (hQ : ∀ S' J R' z', Inv sc (n + 1) S' J R' z' → RB (d + 300) 251 18 [.ref 15, .ref 16, .ref 81, .int (nI (i + 6))] [] (S', J, R', z') Q) : RB (d + 300) 251 594 [.ref 15, .ref 16, .ref 81, .int (nI i)] [] (S, I, R, z) Q := by
  have s15 : S 15 = (9, L) := h.1.1.1.trans hl
  have s16 : S 16 = (6, 10) := h.1.1.2.1
  have i15 : I 15 = sc.2 := h.1.2
  simp (disch := omega) only [w251_594, w251_594N, w251_595, w251_595N, w251_596, w251_597, w251_598, w251_599, w251_600, s15, s16, i15, aPush_s, aPush_n, vrf_s, vrf_n, true_and, and_true, false_and, and_false, true_imp_iff, false_imp_iff, not_true_eq_false, not_false_eq_true, eq_self, true_or, or_true, and_self, if_true, if_false, n_lit, n_of, n_an, nI_add, n_cl, n_ixT, le_T, Nat.reduceAdd, Nat.reduceLeDiff, Nat.add_assoc]
  refine RM_mono (p89 h) ?_
  rintro v ⟨S', J, R', z'⟩ ⟨⟨⟨k1, k2, k3⟩, k4⟩, hr⟩
  obtain ⟨n0, v2, τ2, hrun, hI, y, hv, hv2⟩ := id hr
  subst hv
  have t15 : S' 15 = (9, L) := k1.trans hl
  have t81 : S' 81 = (7, 33) := k3
  have j15 : J 15 = sc.2 := k4
  simp (disch := omega) only [w251_603, w251_603N, w251_604, w251_604N, w251_605, w251_606, w251_607, w251_608, w251_609, t15, t81, j15, aPush_s, aPush_n, vrf_s, vrf_n, true_and, and_true, false_and, and_false, true_imp_iff, false_imp_iff, not_true_eq_false, not_false_eq_true, eq_self, true_or, or_true, and_self, if_true, if_false, n_lit, n_of, n_an, nI_add, n_cl, n_ixT, le_T, Nat.reduceAdd, Nat.reduceLeDiff, Nat.add_assoc]
  refine RM_mono hr ?_
  rintro v ⟨S3, J3, R3, z3⟩ ⟨hI3, y3, e1, e2⟩
  subst e2
  cases e1
  simp (disch := omega) only [w251_612, w251_1523, w251_1526, w251_1529, w251_1530, aPush_s, aPush_n, vrf_s, vrf_n, true_and, and_true, false_and, and_false, true_imp_iff, false_imp_iff, not_true_eq_false, not_false_eq_true, eq_self, true_or, or_true, and_self, if_true, if_false, n_lit, n_of, n_an, nI_add, n_cl, n_ixT, le_T, Nat.reduceAdd, Nat.reduceLeDiff, Nat.add_assoc]
  exact hQ S3 J3 R3 z3 hI3
theorem q90 (h : Inv sc n S I R z) (hl : sc.1 = (9, L)) (hL : L ≤ 3072) (hi : i + 6 ≤ L) (hQ : ∀ S' J R' z', Inv sc (n + 1) S' J R' z' → RB (d + 300) 251 18 [.ref 15, .ref 16, .ref 81, .int (nI (i + 6))] [] (S', J, R', z') Q) : RB (d + 300) 251 617 [.ref 15, .ref 16, .ref 81, .int (nI i)] [] (S, I, R, z) Q := by
  have s15 : S 15 = (9, L) := h.1.1.1.trans hl
  have s16 : S 16 = (6, 10) := h.1.1.2.1
  have i15 : I 15 = sc.2 := h.1.2
  simp (disch := omega) only [w251_617, w251_617N, w251_618, w251_618N, w251_619, w251_620, w251_621, w251_622, w251_623, s15, s16, i15, aPush_s, aPush_n, vrf_s, vrf_n, true_and, and_true, false_and, and_false, true_imp_iff, false_imp_iff, not_true_eq_false, not_false_eq_true, eq_self, true_or, or_true, and_self, if_true, if_false, n_lit, n_of, n_an, nI_add, n_cl, n_ixT, le_T, Nat.reduceAdd, Nat.reduceLeDiff, Nat.add_assoc]
  refine RM_mono (p90 h) ?_
  rintro v ⟨S', J, R', z'⟩ ⟨⟨⟨k1, k2, k3⟩, k4⟩, hr⟩
  obtain ⟨n0, v2, τ2, hrun, hI, y, hv, hv2⟩ := id hr
  subst hv
  have t15 : S' 15 = (9, L) := k1.trans hl
  have t81 : S' 81 = (7, 33) := k3
  have j15 : J 15 = sc.2 := k4
  simp (disch := omega) only [w251_626, w251_626N, w251_627, w251_627N, w251_628, w251_629, w251_630, w251_631, w251_632, t15, t81, j15, aPush_s, aPush_n, vrf_s, vrf_n, true_and, and_true, false_and, and_false, true_imp_iff, false_imp_iff, not_true_eq_false, not_false_eq_true, eq_self, true_or, or_true, and_self, if_true, if_false, n_lit, n_of, n_an, nI_add, n_cl, n_ixT, le_T, Nat.reduceAdd, Nat.reduceLeDiff, Nat.add_assoc]
  refine RM_mono hr ?_
  rintro v ⟨S3, J3, R3, z3⟩ ⟨hI3, y3, e1, e2⟩
  subst e2
  cases e1
  simp (disch := omega) only [w251_635, w251_1523, w251_1526, w251_1529, w251_1530, aPush_s, aPush_n, vrf_s, vrf_n, true_and, and_true, false_and, and_false, true_imp_iff, false_imp_iff, not_true_eq_false, not_false_eq_true, eq_self, true_or, or_true, and_self, if_true, if_false, n_lit, n_of, n_an, nI_add, n_cl, n_ixT, le_T, Nat.reduceAdd, Nat.reduceLeDiff, Nat.add_assoc]
  exact hQ S3 J3 R3 z3 hI3
theorem q91 (h : Inv sc n S I R z) (hl : sc.1 = (9, L)) (hL : L ≤ 3072) (hi : i + 6 ≤ L) (hQ : ∀ S' J R' z', Inv sc (n + 1) S' J R' z' → RB (d + 300) 251 18 [.ref 15, .ref 16, .ref 81, .int (nI (i + 6))] [] (S', J, R', z') Q) : RB (d + 300) 251 640 [.ref 15, .ref 16, .ref 81, .int (nI i)] [] (S, I, R, z) Q := by
  have s15 : S 15 = (9, L) := h.1.1.1.trans hl
  have s16 : S 16 = (6, 10) := h.1.1.2.1
  have i15 : I 15 = sc.2 := h.1.2
  simp (disch := omega) only [w251_640, w251_640N, w251_641, s15, s16, i15, aPush_s, aPush_n, vrf_s, vrf_n, true_and, and_true, false_and, and_false, true_imp_iff, false_imp_iff, not_true_eq_false, not_false_eq_true, eq_self, true_or, or_true, and_self, if_true, if_false, n_lit, n_of, n_an, nI_add, n_cl, n_ixT, le_T, Nat.reduceAdd, Nat.reduceLeDiff, Nat.add_assoc]
  refine RM_mono (p91 h) ?_
  rintro v ⟨S', J, R', z'⟩ ⟨⟨⟨k1, k2, k3⟩, k4⟩, hr⟩
  obtain ⟨n0, v2, τ2, hrun, hI, y, hv, hv2⟩ := id hr
  subst hv
  have t15 : S' 15 = (9, L) := k1.trans hl
  have t81 : S' 81 = (7, 33) := k3
  have j15 : J 15 = sc.2 := k4
  simp (disch := omega) only [w251_644, w251_644N, w251_645, t15, t81, j15, aPush_s, aPush_n, vrf_s, vrf_n, true_and, and_true, false_and, and_false, true_imp_iff, false_imp_iff, not_true_eq_false, not_false_eq_true, eq_self, true_or, or_true, and_self, if_true, if_false, n_lit, n_of, n_an, nI_add, n_cl, n_ixT, le_T, Nat.reduceAdd, Nat.reduceLeDiff, Nat.add_assoc]
  refine RM_mono hr ?_
  rintro v ⟨S3, J3, R3, z3⟩ ⟨hI3, y3, e1, e2⟩
  subst e2
  cases e1
  simp (disch := omega) only [w251_648, w251_1523, w251_1526, w251_1529, w251_1530, aPush_s, aPush_n, vrf_s, vrf_n, true_and, and_true, false_and, and_false, true_imp_iff, false_imp_iff, not_true_eq_false, not_false_eq_true, eq_self, true_or, or_true, and_self, if_true, if_false, n_lit, n_of, n_an, nI_add, n_cl, n_ixT, le_T, Nat.reduceAdd, Nat.reduceLeDiff, Nat.add_assoc]
  exact hQ S3 J3 R3 z3 hI3
theorem q92 (h : Inv sc n S I R z) (hl : sc.1 = (9, L)) (hL : L ≤ 3072) (hi : i + 6 ≤ L) (hQ : ∀ S' J R' z', Inv sc (n + 1) S' J R' z' → RB (d + 300) 251 18 [.ref 15, .ref 16, .ref 81, .int (nI (i + 6))] [] (S', J, R', z') Q) : RB (d + 300) 251 653 [.ref 15, .ref 16, .ref 81, .int (nI i)] [] (S, I, R, z) Q := by
  have s15 : S 15 = (9, L) := h.1.1.1.trans hl
  have s16 : S 16 = (6, 10) := h.1.1.2.1
  have i15 : I 15 = sc.2 := h.1.2
  simp (disch := omega) only [w251_653, w251_653N, w251_654, w251_654N, w251_655, w251_656, w251_657, w251_658, w251_659, s15, s16, i15, aPush_s, aPush_n, vrf_s, vrf_n, true_and, and_true, false_and, and_false, true_imp_iff, false_imp_iff, not_true_eq_false, not_false_eq_true, eq_self, true_or, or_true, and_self, if_true, if_false, n_lit, n_of, n_an, nI_add, n_cl, n_ixT, le_T, Nat.reduceAdd, Nat.reduceLeDiff, Nat.add_assoc]
  refine RM_mono (p92 h) ?_
  rintro v ⟨S', J, R', z'⟩ ⟨⟨⟨k1, k2, k3⟩, k4⟩, hr⟩
  obtain ⟨n0, v2, τ2, hrun, hI, y, hv, hv2⟩ := id hr
  subst hv
  have t15 : S' 15 = (9, L) := k1.trans hl
  have t81 : S' 81 = (7, 33) := k3
  have j15 : J 15 = sc.2 := k4
  simp (disch := omega) only [w251_662, w251_662N, w251_663, w251_663N, w251_664, w251_665, w251_666, w251_667, w251_668, t15, t81, j15, aPush_s, aPush_n, vrf_s, vrf_n, true_and, and_true, false_and, and_false, true_imp_iff, false_imp_iff, not_true_eq_false, not_false_eq_true, eq_self, true_or, or_true, and_self, if_true, if_false, n_lit, n_of, n_an, nI_add, n_cl, n_ixT, le_T, Nat.reduceAdd, Nat.reduceLeDiff, Nat.add_assoc]
  refine RM_mono hr ?_
  rintro v ⟨S3, J3, R3, z3⟩ ⟨hI3, y3, e1, e2⟩
  subst e2
  cases e1
  simp (disch := omega) only [w251_671, w251_1523, w251_1526, w251_1529, w251_1530, aPush_s, aPush_n, vrf_s, vrf_n, true_and, and_true, false_and, and_false, true_imp_iff, false_imp_iff, not_true_eq_false, not_false_eq_true, eq_self, true_or, or_true, and_self, if_true, if_false, n_lit, n_of, n_an, nI_add, n_cl, n_ixT, le_T, Nat.reduceAdd, Nat.reduceLeDiff, Nat.add_assoc]
  exact hQ S3 J3 R3 z3 hI3
theorem q93 (h : Inv sc n S I R z) (hl : sc.1 = (9, L)) (hL : L ≤ 3072) (hi : i + 6 ≤ L) (hQ : ∀ S' J R' z', Inv sc (n + 1) S' J R' z' → RB (d + 300) 251 18 [.ref 15, .ref 16, .ref 81, .int (nI (i + 6))] [] (S', J, R', z') Q) : RB (d + 300) 251 676 [.ref 15, .ref 16, .ref 81, .int (nI i)] [] (S, I, R, z) Q := by
  have s15 : S 15 = (9, L) := h.1.1.1.trans hl
  have s16 : S 16 = (6, 10) := h.1.1.2.1
  have i15 : I 15 = sc.2 := h.1.2
  simp (disch := omega) only [w251_676, w251_676N, w251_677, w251_677N, w251_678, w251_679, w251_680, w251_681, w251_682, s15, s16, i15, aPush_s, aPush_n, vrf_s, vrf_n, true_and, and_true, false_and, and_false, true_imp_iff, false_imp_iff, not_true_eq_false, not_false_eq_true, eq_self, true_or, or_true, and_self, if_true, if_false, n_lit, n_of, n_an, nI_add, n_cl, n_ixT, le_T, Nat.reduceAdd, Nat.reduceLeDiff, Nat.add_assoc]
  refine RM_mono (p93 h) ?_
  rintro v ⟨S', J, R', z'⟩ ⟨⟨⟨k1, k2, k3⟩, k4⟩, hr⟩
  obtain ⟨n0, v2, τ2, hrun, hI, y, hv, hv2⟩ := id hr
  subst hv
  have t15 : S' 15 = (9, L) := k1.trans hl
  have t81 : S' 81 = (7, 33) := k3
  have j15 : J 15 = sc.2 := k4
  simp (disch := omega) only [w251_685, w251_685N, w251_686, w251_686N, w251_687, w251_688, w251_689, w251_690, w251_691, t15, t81, j15, aPush_s, aPush_n, vrf_s, vrf_n, true_and, and_true, false_and, and_false, true_imp_iff, false_imp_iff, not_true_eq_false, not_false_eq_true, eq_self, true_or, or_true, and_self, if_true, if_false, n_lit, n_of, n_an, nI_add, n_cl, n_ixT, le_T, Nat.reduceAdd, Nat.reduceLeDiff, Nat.add_assoc]
  refine RM_mono hr ?_
  rintro v ⟨S3, J3, R3, z3⟩ ⟨hI3, y3, e1, e2⟩
  subst e2
  cases e1
  simp (disch := omega) only [w251_694, w251_1523, w251_1526, w251_1529, w251_1530, aPush_s, aPush_n, vrf_s, vrf_n, true_and, and_true, false_and, and_false, true_imp_iff, false_imp_iff, not_true_eq_false, not_false_eq_true, eq_self, true_or, or_true, and_self, if_true, if_false, n_lit, n_of, n_an, nI_add, n_cl, n_ixT, le_T, Nat.reduceAdd, Nat.reduceLeDiff, Nat.add_assoc]
  exact hQ S3 J3 R3 z3 hI3
theorem q94 (h : Inv sc n S I R z) (hl : sc.1 = (9, L)) (hL : L ≤ 3072) (hi : i + 6 ≤ L) (hQ : ∀ S' J R' z', Inv sc (n + 1) S' J R' z' → RB (d + 300) 251 18 [.ref 15, .ref 16, .ref 81, .int (nI (i + 6))] [] (S', J, R', z') Q) : RB (d + 300) 251 699 [.ref 15, .ref 16, .ref 81, .int (nI i)] [] (S, I, R, z) Q := by
  have s15 : S 15 = (9, L) := h.1.1.1.trans hl
  have s16 : S 16 = (6, 10) := h.1.1.2.1
  have i15 : I 15 = sc.2 := h.1.2
  simp (disch := omega) only [w251_699, w251_699N, w251_700, w251_700N, w251_701, w251_702, w251_703, w251_704, w251_705, w251_705N, w251_706, w251_707, w251_708, w251_709, w251_710, s15, s16, i15, aPush_s, aPush_n, vrf_s, vrf_n, true_and, and_true, false_and, and_false, true_imp_iff, false_imp_iff, not_true_eq_false, not_false_eq_true, eq_self, true_or, or_true, and_self, if_true, if_false, n_lit, n_of, n_an, nI_add, n_cl, n_ixT, le_T, Nat.reduceAdd, Nat.reduceLeDiff, Nat.add_assoc]
  refine RM_mono (p94 h) ?_
  rintro v ⟨S', J, R', z'⟩ ⟨⟨⟨k1, k2, k3⟩, k4⟩, hr⟩
  obtain ⟨n0, v2, τ2, hrun, hI, y, hv, hv2⟩ := id hr
  subst hv
  have t15 : S' 15 = (9, L) := k1.trans hl
  have t81 : S' 81 = (7, 33) := k3
  have j15 : J 15 = sc.2 := k4
  simp (disch := omega) only [w251_713, w251_713N, w251_714, w251_714N, w251_715, w251_716, w251_717, w251_718, w251_719, w251_719N, w251_720, w251_721, w251_722, w251_723, w251_724, t15, t81, j15, aPush_s, aPush_n, vrf_s, vrf_n, true_and, and_true, false_and, and_false, true_imp_iff, false_imp_iff, not_true_eq_false, not_false_eq_true, eq_self, true_or, or_true, and_self, if_true, if_false, n_lit, n_of, n_an, nI_add, n_cl, n_ixT, le_T, Nat.reduceAdd, Nat.reduceLeDiff, Nat.add_assoc]
  refine RM_mono hr ?_
  rintro v ⟨S3, J3, R3, z3⟩ ⟨hI3, y3, e1, e2⟩
  subst e2
  cases e1
  simp (disch := omega) only [w251_727, w251_1523, w251_1526, w251_1529, w251_1530, aPush_s, aPush_n, vrf_s, vrf_n, true_and, and_true, false_and, and_false, true_imp_iff, false_imp_iff, not_true_eq_false, not_false_eq_true, eq_self, true_or, or_true, and_self, if_true, if_false, n_lit, n_of, n_an, nI_add, n_cl, n_ixT, le_T, Nat.reduceAdd, Nat.reduceLeDiff, Nat.add_assoc]
  exact hQ S3 J3 R3 z3 hI3
theorem q95 (h : Inv sc n S I R z) (hl : sc.1 = (9, L)) (hL : L ≤ 3072) (hi : i + 6 ≤ L) (hQ : ∀ S' J R' z', Inv sc (n + 1) S' J R' z' → RB (d + 300) 251 18 [.ref 15, .ref 16, .ref 81, .int (nI (i + 6))] [] (S', J, R', z') Q) : RB (d + 300) 251 732 [.ref 15, .ref 16, .ref 81, .int (nI i)] [] (S, I, R, z) Q := by
  have s15 : S 15 = (9, L) := h.1.1.1.trans hl
  have s16 : S 16 = (6, 10) := h.1.1.2.1
  have i15 : I 15 = sc.2 := h.1.2
  simp (disch := omega) only [w251_732, w251_732N, w251_733, w251_733N, w251_734, w251_735, w251_736, w251_737, w251_738, w251_738N, w251_739, w251_740, w251_741, w251_742, w251_743, s15, s16, i15, aPush_s, aPush_n, vrf_s, vrf_n, true_and, and_true, false_and, and_false, true_imp_iff, false_imp_iff, not_true_eq_false, not_false_eq_true, eq_self, true_or, or_true, and_self, if_true, if_false, n_lit, n_of, n_an, nI_add, n_cl, n_ixT, le_T, Nat.reduceAdd, Nat.reduceLeDiff, Nat.add_assoc]
  refine RM_mono (p95 h) ?_
  rintro v ⟨S', J, R', z'⟩ ⟨⟨⟨k1, k2, k3⟩, k4⟩, hr⟩
  obtain ⟨n0, v2, τ2, hrun, hI, y, hv, hv2⟩ := id hr
  subst hv
  have t15 : S' 15 = (9, L) := k1.trans hl
  have t81 : S' 81 = (7, 33) := k3
  have j15 : J 15 = sc.2 := k4
  simp (disch := omega) only [w251_746, w251_746N, w251_747, w251_747N, w251_748, w251_749, w251_750, w251_751, w251_752, w251_752N, w251_753, w251_754, w251_755, w251_756, w251_757, t15, t81, j15, aPush_s, aPush_n, vrf_s, vrf_n, true_and, and_true, false_and, and_false, true_imp_iff, false_imp_iff, not_true_eq_false, not_false_eq_true, eq_self, true_or, or_true, and_self, if_true, if_false, n_lit, n_of, n_an, nI_add, n_cl, n_ixT, le_T, Nat.reduceAdd, Nat.reduceLeDiff, Nat.add_assoc]
  refine RM_mono hr ?_
  rintro v ⟨S3, J3, R3, z3⟩ ⟨hI3, y3, e1, e2⟩
  subst e2
  cases e1
  simp (disch := omega) only [w251_760, w251_1523, w251_1526, w251_1529, w251_1530, aPush_s, aPush_n, vrf_s, vrf_n, true_and, and_true, false_and, and_false, true_imp_iff, false_imp_iff, not_true_eq_false, not_false_eq_true, eq_self, true_or, or_true, and_self, if_true, if_false, n_lit, n_of, n_an, nI_add, n_cl, n_ixT, le_T, Nat.reduceAdd, Nat.reduceLeDiff, Nat.add_assoc]
  exact hQ S3 J3 R3 z3 hI3
theorem q96 (h : Inv sc n S I R z) (hl : sc.1 = (9, L)) (hL : L ≤ 3072) (hi : i + 6 ≤ L) (hQ : ∀ S' J R' z', Inv sc (n + 1) S' J R' z' → RB (d + 300) 251 18 [.ref 15, .ref 16, .ref 81, .int (nI (i + 6))] [] (S', J, R', z') Q) : RB (d + 300) 251 765 [.ref 15, .ref 16, .ref 81, .int (nI i)] [] (S, I, R, z) Q := by
  have s15 : S 15 = (9, L) := h.1.1.1.trans hl
  have s16 : S 16 = (6, 10) := h.1.1.2.1
  have i15 : I 15 = sc.2 := h.1.2
  simp (disch := omega) only [w251_765, w251_765N, w251_766, w251_766N, w251_767, w251_768, w251_769, w251_770, w251_771, s15, s16, i15, aPush_s, aPush_n, vrf_s, vrf_n, true_and, and_true, false_and, and_false, true_imp_iff, false_imp_iff, not_true_eq_false, not_false_eq_true, eq_self, true_or, or_true, and_self, if_true, if_false, n_lit, n_of, n_an, nI_add, n_cl, n_ixT, le_T, Nat.reduceAdd, Nat.reduceLeDiff, Nat.add_assoc]
  refine RM_mono (p96 h) ?_
  rintro v ⟨S', J, R', z'⟩ ⟨⟨⟨k1, k2, k3⟩, k4⟩, hr⟩
  obtain ⟨n0, v2, τ2, hrun, hI, y, hv, hv2⟩ := id hr
  subst hv
  have t15 : S' 15 = (9, L) := k1.trans hl
  have t81 : S' 81 = (7, 33) := k3
  have j15 : J 15 = sc.2 := k4
  simp (disch := omega) only [w251_774, w251_774N, w251_775, w251_775N, w251_776, w251_777, w251_778, w251_779, w251_780, t15, t81, j15, aPush_s, aPush_n, vrf_s, vrf_n, true_and, and_true, false_and, and_false, true_imp_iff, false_imp_iff, not_true_eq_false, not_false_eq_true, eq_self, true_or, or_true, and_self, if_true, if_false, n_lit, n_of, n_an, nI_add, n_cl, n_ixT, le_T, Nat.reduceAdd, Nat.reduceLeDiff, Nat.add_assoc]
  refine RM_mono hr ?_
  rintro v ⟨S3, J3, R3, z3⟩ ⟨hI3, y3, e1, e2⟩
  subst e2
  cases e1
  simp (disch := omega) only [w251_783, w251_1523, w251_1526, w251_1529, w251_1530, aPush_s, aPush_n, vrf_s, vrf_n, true_and, and_true, false_and, and_false, true_imp_iff, false_imp_iff, not_true_eq_false, not_false_eq_true, eq_self, true_or, or_true, and_self, if_true, if_false, n_lit, n_of, n_an, nI_add, n_cl, n_ixT, le_T, Nat.reduceAdd, Nat.reduceLeDiff, Nat.add_assoc]
  exact hQ S3 J3 R3 z3 hI3
theorem q97 (h : Inv sc n S I R z) (hl : sc.1 = (9, L)) (hL : L ≤ 3072) (hi : i + 6 ≤ L) (hQ : ∀ S' J R' z', Inv sc (n + 1) S' J R' z' → RB (d + 300) 251 18 [.ref 15, .ref 16, .ref 81, .int (nI (i + 6))] [] (S', J, R', z') Q) : RB (d + 300) 251 788 [.ref 15, .ref 16, .ref 81, .int (nI i)] [] (S, I, R, z) Q := by
  have s15 : S 15 = (9, L) := h.1.1.1.trans hl
  have s16 : S 16 = (6, 10) := h.1.1.2.1
  have i15 : I 15 = sc.2 := h.1.2
  simp (disch := omega) only [w251_788, w251_788N, w251_789, w251_789N, w251_790, w251_791, w251_792, w251_793, w251_794, s15, s16, i15, aPush_s, aPush_n, vrf_s, vrf_n, true_and, and_true, false_and, and_false, true_imp_iff, false_imp_iff, not_true_eq_false, not_false_eq_true, eq_self, true_or, or_true, and_self, if_true, if_false, n_lit, n_of, n_an, nI_add, n_cl, n_ixT, le_T, Nat.reduceAdd, Nat.reduceLeDiff, Nat.add_assoc]
  refine RM_mono (p97 h) ?_
  rintro v ⟨S', J, R', z'⟩ ⟨⟨⟨k1, k2, k3⟩, k4⟩, hr⟩
  obtain ⟨n0, v2, τ2, hrun, hI, y, hv, hv2⟩ := id hr
  subst hv
  have t15 : S' 15 = (9, L) := k1.trans hl
  have t81 : S' 81 = (7, 33) := k3
  have j15 : J 15 = sc.2 := k4
  simp (disch := omega) only [w251_797, w251_797N, w251_798, w251_798N, w251_799, w251_800, w251_801, w251_802, w251_803, t15, t81, j15, aPush_s, aPush_n, vrf_s, vrf_n, true_and, and_true, false_and, and_false, true_imp_iff, false_imp_iff, not_true_eq_false, not_false_eq_true, eq_self, true_or, or_true, and_self, if_true, if_false, n_lit, n_of, n_an, nI_add, n_cl, n_ixT, le_T, Nat.reduceAdd, Nat.reduceLeDiff, Nat.add_assoc]
  refine RM_mono hr ?_
  rintro v ⟨S3, J3, R3, z3⟩ ⟨hI3, y3, e1, e2⟩
  subst e2
  cases e1
  simp (disch := omega) only [w251_806, w251_1523, w251_1526, w251_1529, w251_1530, aPush_s, aPush_n, vrf_s, vrf_n, true_and, and_true, false_and, and_false, true_imp_iff, false_imp_iff, not_true_eq_false, not_false_eq_true, eq_self, true_or, or_true, and_self, if_true, if_false, n_lit, n_of, n_an, nI_add, n_cl, n_ixT, le_T, Nat.reduceAdd, Nat.reduceLeDiff, Nat.add_assoc]
  exact hQ S3 J3 R3 z3 hI3
theorem q98 (h : Inv sc n S I R z) (hl : sc.1 = (9, L)) (hL : L ≤ 3072) (hi : i + 6 ≤ L) (hQ : ∀ S' J R' z', Inv sc (n + 1) S' J R' z' → RB (d + 300) 251 18 [.ref 15, .ref 16, .ref 81, .int (nI (i + 6))] [] (S', J, R', z') Q) : RB (d + 300) 251 811 [.ref 15, .ref 16, .ref 81, .int (nI i)] [] (S, I, R, z) Q := by
  have s15 : S 15 = (9, L) := h.1.1.1.trans hl
  have s16 : S 16 = (6, 10) := h.1.1.2.1
  have i15 : I 15 = sc.2 := h.1.2
  simp (disch := omega) only [w251_811, w251_811N, w251_812, w251_812N, w251_813, w251_814, w251_815, w251_816, w251_817, s15, s16, i15, aPush_s, aPush_n, vrf_s, vrf_n, true_and, and_true, false_and, and_false, true_imp_iff, false_imp_iff, not_true_eq_false, not_false_eq_true, eq_self, true_or, or_true, and_self, if_true, if_false, n_lit, n_of, n_an, nI_add, n_cl, n_ixT, le_T, Nat.reduceAdd, Nat.reduceLeDiff, Nat.add_assoc]
  refine RM_mono (p98 h) ?_
  rintro v ⟨S', J, R', z'⟩ ⟨⟨⟨k1, k2, k3⟩, k4⟩, hr⟩
  obtain ⟨n0, v2, τ2, hrun, hI, y, hv, hv2⟩ := id hr
  subst hv
  have t15 : S' 15 = (9, L) := k1.trans hl
  have t81 : S' 81 = (7, 33) := k3
  have j15 : J 15 = sc.2 := k4
  simp (disch := omega) only [w251_820, w251_820N, w251_821, w251_821N, w251_822, w251_823, w251_824, w251_825, w251_826, t15, t81, j15, aPush_s, aPush_n, vrf_s, vrf_n, true_and, and_true, false_and, and_false, true_imp_iff, false_imp_iff, not_true_eq_false, not_false_eq_true, eq_self, true_or, or_true, and_self, if_true, if_false, n_lit, n_of, n_an, nI_add, n_cl, n_ixT, le_T, Nat.reduceAdd, Nat.reduceLeDiff, Nat.add_assoc]
  refine RM_mono hr ?_
  rintro v ⟨S3, J3, R3, z3⟩ ⟨hI3, y3, e1, e2⟩
  subst e2
  cases e1
  simp (disch := omega) only [w251_829, w251_1523, w251_1526, w251_1529, w251_1530, aPush_s, aPush_n, vrf_s, vrf_n, true_and, and_true, false_and, and_false, true_imp_iff, false_imp_iff, not_true_eq_false, not_false_eq_true, eq_self, true_or, or_true, and_self, if_true, if_false, n_lit, n_of, n_an, nI_add, n_cl, n_ixT, le_T, Nat.reduceAdd, Nat.reduceLeDiff, Nat.add_assoc]
  exact hQ S3 J3 R3 z3 hI3
theorem q99 (h : Inv sc n S I R z) (hl : sc.1 = (9, L)) (hL : L ≤ 3072) (hi : i + 6 ≤ L) (hQ : ∀ S' J R' z', Inv sc (n + 1) S' J R' z' → RB (d + 300) 251 18 [.ref 15, .ref 16, .ref 81, .int (nI (i + 6))] [] (S', J, R', z') Q) : RB (d + 300) 251 834 [.ref 15, .ref 16, .ref 81, .int (nI i)] [] (S, I, R, z) Q := by
  have s15 : S 15 = (9, L) := h.1.1.1.trans hl
  have s16 : S 16 = (6, 10) := h.1.1.2.1
  have i15 : I 15 = sc.2 := h.1.2
  simp (disch := omega) only [w251_834, w251_834N, w251_835, s15, s16, i15, aPush_s, aPush_n, vrf_s, vrf_n, true_and, and_true, false_and, and_false, true_imp_iff, false_imp_iff, not_true_eq_false, not_false_eq_true, eq_self, true_or, or_true, and_self, if_true, if_false, n_lit, n_of, n_an, nI_add, n_cl, n_ixT, le_T, Nat.reduceAdd, Nat.reduceLeDiff, Nat.add_assoc]
  refine RM_mono (p99 h) ?_
  rintro v ⟨S', J, R', z'⟩ ⟨⟨⟨k1, k2, k3⟩, k4⟩, hr⟩
  obtain ⟨n0, v2, τ2, hrun, hI, y, hv, hv2⟩ := id hr
  subst hv
  have t15 : S' 15 = (9, L) := k1.trans hl
  have t81 : S' 81 = (7, 33) := k3
  have j15 : J 15 = sc.2 := k4
  simp (disch := omega) only [w251_838, w251_838N, w251_839, t15, t81, j15, aPush_s, aPush_n, vrf_s, vrf_n, true_and, and_true, false_and, and_false, true_imp_iff, false_imp_iff, not_true_eq_false, not_false_eq_true, eq_self, true_or, or_true, and_self, if_true, if_false, n_lit, n_of, n_an, nI_add, n_cl, n_ixT, le_T, Nat.reduceAdd, Nat.reduceLeDiff, Nat.add_assoc]
  refine RM_mono hr ?_
  rintro v ⟨S3, J3, R3, z3⟩ ⟨hI3, y3, e1, e2⟩
  subst e2
  cases e1
  simp (disch := omega) only [w251_842, w251_1523, w251_1526, w251_1529, w251_1530, aPush_s, aPush_n, vrf_s, vrf_n, true_and, and_true, false_and, and_false, true_imp_iff, false_imp_iff, not_true_eq_false, not_false_eq_true, eq_self, true_or, or_true, and_self, if_true, if_false, n_lit, n_of, n_an, nI_add, n_cl, n_ixT, le_T, Nat.reduceAdd, Nat.reduceLeDiff, Nat.add_assoc]
  exact hQ S3 J3 R3 z3 hI3
theorem q100 (h : Inv sc n S I R z) (hl : sc.1 = (9, L)) (hL : L ≤ 3072) (hi : i + 6 ≤ L) (hQ : ∀ S' J R' z', Inv sc (n + 1) S' J R' z' → RB (d + 300) 251 18 [.ref 15, .ref 16, .ref 81, .int (nI (i + 6))] [] (S', J, R', z') Q) : RB (d + 300) 251 847 [.ref 15, .ref 16, .ref 81, .int (nI i)] [] (S, I, R, z) Q := by
  have s15 : S 15 = (9, L) := h.1.1.1.trans hl
  have s16 : S 16 = (6, 10) := h.1.1.2.1
  have i15 : I 15 = sc.2 := h.1.2
  simp (disch := omega) only [w251_847, w251_847N, w251_848, w251_848N, w251_849, w251_850, w251_851, w251_852, w251_853, w251_853N, w251_854, w251_855, w251_856, w251_857, w251_858, w251_858N, w251_859, w251_860, w251_861, w251_862, w251_863, s15, s16, i15, aPush_s, aPush_n, vrf_s, vrf_n, true_and, and_true, false_and, and_false, true_imp_iff, false_imp_iff, not_true_eq_false, not_false_eq_true, eq_self, true_or, or_true, and_self, if_true, if_false, n_lit, n_of, n_an, nI_add, n_cl, n_ixT, le_T, Nat.reduceAdd, Nat.reduceLeDiff, Nat.add_assoc]
  refine RM_mono (p100 h) ?_
  rintro v ⟨S', J, R', z'⟩ ⟨⟨⟨k1, k2, k3⟩, k4⟩, hr⟩
  obtain ⟨n0, v2, τ2, hrun, hI, y, hv, hv2⟩ := id hr
  subst hv
  have t15 : S' 15 = (9, L) := k1.trans hl
  have t81 : S' 81 = (7, 33) := k3
  have j15 : J 15 = sc.2 := k4
  simp (disch := omega) only [w251_866, w251_866N, w251_867, w251_867N, w251_868, w251_869, w251_870, w251_871, w251_872, w251_872N, w251_873, w251_874, w251_875, w251_876, w251_877, w251_877N, w251_878, w251_879, w251_880, w251_881, w251_882, t15, t81, j15, aPush_s, aPush_n, vrf_s, vrf_n, true_and, and_true, false_and, and_false, true_imp_iff, false_imp_iff, not_true_eq_false, not_false_eq_true, eq_self, true_or, or_true, and_self, if_true, if_false, n_lit, n_of, n_an, nI_add, n_cl, n_ixT, le_T, Nat.reduceAdd, Nat.reduceLeDiff, Nat.add_assoc]
  refine RM_mono hr ?_
  rintro v ⟨S3, J3, R3, z3⟩ ⟨hI3, y3, e1, e2⟩
  subst e2
  cases e1
  simp (disch := omega) only [w251_885, w251_1523, w251_1526, w251_1529, w251_1530, aPush_s, aPush_n, vrf_s, vrf_n, true_and, and_true, false_and, and_false, true_imp_iff, false_imp_iff, not_true_eq_false, not_false_eq_true, eq_self, true_or, or_true, and_self, if_true, if_false, n_lit, n_of, n_an, nI_add, n_cl, n_ixT, le_T, Nat.reduceAdd, Nat.reduceLeDiff, Nat.add_assoc]
  exact hQ S3 J3 R3 z3 hI3
theorem q101 (h : Inv sc n S I R z) (hl : sc.1 = (9, L)) (hL : L ≤ 3072) (hi : i + 6 ≤ L) (hQ : ∀ S' J R' z', Inv sc (n + 1) S' J R' z' → RB (d + 300) 251 18 [.ref 15, .ref 16, .ref 81, .int (nI (i + 6))] [] (S', J, R', z') Q) : RB (d + 300) 251 890 [.ref 15, .ref 16, .ref 81, .int (nI i)] [] (S, I, R, z) Q := by
  have s15 : S 15 = (9, L) := h.1.1.1.trans hl
  have s16 : S 16 = (6, 10) := h.1.1.2.1
  have i15 : I 15 = sc.2 := h.1.2
  simp (disch := omega) only [w251_890, w251_890N, w251_891, w251_891N, w251_892, w251_893, w251_894, w251_895, w251_896, w251_896N, w251_897, w251_898, w251_899, w251_900, w251_901, s15, s16, i15, aPush_s, aPush_n, vrf_s, vrf_n, true_and, and_true, false_and, and_false, true_imp_iff, false_imp_iff, not_true_eq_false, not_false_eq_true, eq_self, true_or, or_true, and_self, if_true, if_false, n_lit, n_of, n_an, nI_add, n_cl, n_ixT, le_T, Nat.reduceAdd, Nat.reduceLeDiff, Nat.add_assoc]
  refine RM_mono (p101 h) ?_
  rintro v ⟨S', J, R', z'⟩ ⟨⟨⟨k1, k2, k3⟩, k4⟩, hr⟩
  obtain ⟨n0, v2, τ2, hrun, hI, y, hv, hv2⟩ := id hr
  subst hv
  have t15 : S' 15 = (9, L) := k1.trans hl
  have t81 : S' 81 = (7, 33) := k3
  have j15 : J 15 = sc.2 := k4
  simp (disch := omega) only [w251_904, w251_904N, w251_905, w251_905N, w251_906, w251_907, w251_908, w251_909, w251_910, w251_910N, w251_911, w251_912, w251_913, w251_914, w251_915, t15, t81, j15, aPush_s, aPush_n, vrf_s, vrf_n, true_and, and_true, false_and, and_false, true_imp_iff, false_imp_iff, not_true_eq_false, not_false_eq_true, eq_self, true_or, or_true, and_self, if_true, if_false, n_lit, n_of, n_an, nI_add, n_cl, n_ixT, le_T, Nat.reduceAdd, Nat.reduceLeDiff, Nat.add_assoc]
  refine RM_mono hr ?_
  rintro v ⟨S3, J3, R3, z3⟩ ⟨hI3, y3, e1, e2⟩
  subst e2
  cases e1
  simp (disch := omega) only [w251_918, w251_1523, w251_1526, w251_1529, w251_1530, aPush_s, aPush_n, vrf_s, vrf_n, true_and, and_true, false_and, and_false, true_imp_iff, false_imp_iff, not_true_eq_false, not_false_eq_true, eq_self, true_or, or_true, and_self, if_true, if_false, n_lit, n_of, n_an, nI_add, n_cl, n_ixT, le_T, Nat.reduceAdd, Nat.reduceLeDiff, Nat.add_assoc]
  exact hQ S3 J3 R3 z3 hI3
theorem q102 (h : Inv sc n S I R z) (hl : sc.1 = (9, L)) (hL : L ≤ 3072) (hi : i + 6 ≤ L) (hQ : ∀ S' J R' z', Inv sc (n + 1) S' J R' z' → RB (d + 300) 251 18 [.ref 15, .ref 16, .ref 81, .int (nI (i + 6))] [] (S', J, R', z') Q) : RB (d + 300) 251 923 [.ref 15, .ref 16, .ref 81, .int (nI i)] [] (S, I, R, z) Q := by
  have s15 : S 15 = (9, L) := h.1.1.1.trans hl
  have s16 : S 16 = (6, 10) := h.1.1.2.1
  have i15 : I 15 = sc.2 := h.1.2
  simp (disch := omega) only [w251_923, w251_923N, w251_924, s15, s16, i15, aPush_s, aPush_n, vrf_s, vrf_n, true_and, and_true, false_and, and_false, true_imp_iff, false_imp_iff, not_true_eq_false, not_false_eq_true, eq_self, true_or, or_true, and_self, if_true, if_false, n_lit, n_of, n_an, nI_add, n_cl, n_ixT, le_T, Nat.reduceAdd, Nat.reduceLeDiff, Nat.add_assoc]
  refine RM_mono (p102 h) ?_
  rintro v ⟨S', J, R', z'⟩ ⟨⟨⟨k1, k2, k3⟩, k4⟩, hr⟩
  obtain ⟨n0, v2, τ2, hrun, hI, y, hv, hv2⟩ := id hr
  subst hv
  have t15 : S' 15 = (9, L) := k1.trans hl
  have t81 : S' 81 = (7, 33) := k3
  have j15 : J 15 = sc.2 := k4
  simp (disch := omega) only [w251_927, w251_927N, w251_928, t15, t81, j15, aPush_s, aPush_n, vrf_s, vrf_n, true_and, and_true, false_and, and_false, true_imp_iff, false_imp_iff, not_true_eq_false, not_false_eq_true, eq_self, true_or, or_true, and_self, if_true, if_false, n_lit, n_of, n_an, nI_add, n_cl, n_ixT, le_T, Nat.reduceAdd, Nat.reduceLeDiff, Nat.add_assoc]
  refine RM_mono hr ?_
  rintro v ⟨S3, J3, R3, z3⟩ ⟨hI3, y3, e1, e2⟩
  subst e2
  cases e1
  simp (disch := omega) only [w251_931, w251_1523, w251_1526, w251_1529, w251_1530, aPush_s, aPush_n, vrf_s, vrf_n, true_and, and_true, false_and, and_false, true_imp_iff, false_imp_iff, not_true_eq_false, not_false_eq_true, eq_self, true_or, or_true, and_self, if_true, if_false, n_lit, n_of, n_an, nI_add, n_cl, n_ixT, le_T, Nat.reduceAdd, Nat.reduceLeDiff, Nat.add_assoc]
  exact hQ S3 J3 R3 z3 hI3
theorem q103 (h : Inv sc n S I R z) (hl : sc.1 = (9, L)) (hL : L ≤ 3072) (hi : i + 6 ≤ L) (hQ : ∀ S' J R' z', Inv sc (n + 1) S' J R' z' → RB (d + 300) 251 18 [.ref 15, .ref 16, .ref 81, .int (nI (i + 6))] [] (S', J, R', z') Q) : RB (d + 300) 251 936 [.ref 15, .ref 16, .ref 81, .int (nI i)] [] (S, I, R, z) Q := by
  have s15 : S 15 = (9, L) := h.1.1.1.trans hl
  have s16 : S 16 = (6, 10) := h.1.1.2.1
  have i15 : I 15 = sc.2 := h.1.2
  simp (disch := omega) only [w251_936, w251_936N, w251_937, w251_937N, w251_938, w251_939, w251_940, w251_941, w251_942, w251_942N, w251_943, w251_944, w251_945, w251_946, w251_947, w251_947N, w251_948, w251_949, w251_950, w251_951, w251_952, s15, s16, i15, aPush_s, aPush_n, vrf_s, vrf_n, true_and, and_true, false_and, and_false, true_imp_iff, false_imp_iff, not_true_eq_false, not_false_eq_true, eq_self, true_or, or_true, and_self, if_true, if_false, n_lit, n_of, n_an, nI_add, n_cl, n_ixT, le_T, Nat.reduceAdd, Nat.reduceLeDiff, Nat.add_assoc]
  refine RM_mono (p103 h) ?_
  rintro v ⟨S', J, R', z'⟩ ⟨⟨⟨k1, k2, k3⟩, k4⟩, hr⟩
  obtain ⟨n0, v2, τ2, hrun, hI, y, hv, hv2⟩ := id hr
  subst hv
  have t15 : S' 15 = (9, L) := k1.trans hl
  have t81 : S' 81 = (7, 33) := k3
  have j15 : J 15 = sc.2 := k4
  simp (disch := omega) only [w251_955, w251_955N, w251_956, w251_956N, w251_957, w251_958, w251_959, w251_960, w251_961, w251_961N, w251_962, w251_963, w251_964, w251_965, w251_966, w251_966N, w251_967, w251_968, w251_969, w251_970, w251_971, t15, t81, j15, aPush_s, aPush_n, vrf_s, vrf_n, true_and, and_true, false_and, and_false, true_imp_iff, false_imp_iff, not_true_eq_false, not_false_eq_true, eq_self, true_or, or_true, and_self, if_true, if_false, n_lit, n_of, n_an, nI_add, n_cl, n_ixT, le_T, Nat.reduceAdd, Nat.reduceLeDiff, Nat.add_assoc]
  refine RM_mono hr ?_
  rintro v ⟨S3, J3, R3, z3⟩ ⟨hI3, y3, e1, e2⟩
  subst e2
  cases e1
  simp (disch := omega) only [w251_974, w251_1523, w251_1526, w251_1529, w251_1530, aPush_s, aPush_n, vrf_s, vrf_n, true_and, and_true, false_and, and_false, true_imp_iff, false_imp_iff, not_true_eq_false, not_false_eq_true, eq_self, true_or, or_true, and_self, if_true, if_false, n_lit, n_of, n_an, nI_add, n_cl, n_ixT, le_T, Nat.reduceAdd, Nat.reduceLeDiff, Nat.add_assoc]
  exact hQ S3 J3 R3 z3 hI3
theorem q104 (h : Inv sc n S I R z) (hl : sc.1 = (9, L)) (hL : L ≤ 3072) (hi : i + 6 ≤ L) (hQ : ∀ S' J R' z', Inv sc (n + 1) S' J R' z' → RB (d + 300) 251 18 [.ref 15, .ref 16, .ref 81, .int (nI (i + 6))] [] (S', J, R', z') Q) : RB (d + 300) 251 979 [.ref 15, .ref 16, .ref 81, .int (nI i)] [] (S, I, R, z) Q := by
  have s15 : S 15 = (9, L) := h.1.1.1.trans hl
  have s16 : S 16 = (6, 10) := h.1.1.2.1
  have i15 : I 15 = sc.2 := h.1.2
  simp (disch := omega) only [w251_979, w251_979N, w251_980, w251_980N, w251_981, w251_982, w251_983, w251_984, w251_985, s15, s16, i15, aPush_s, aPush_n, vrf_s, vrf_n, true_and, and_true, false_and, and_false, true_imp_iff, false_imp_iff, not_true_eq_false, not_false_eq_true, eq_self, true_or, or_true, and_self, if_true, if_false, n_lit, n_of, n_an, nI_add, n_cl, n_ixT, le_T, Nat.reduceAdd, Nat.reduceLeDiff, Nat.add_assoc]
  refine RM_mono (p104 h) ?_
  rintro v ⟨S', J, R', z'⟩ ⟨⟨⟨k1, k2, k3⟩, k4⟩, hr⟩
  obtain ⟨n0, v2, τ2, hrun, hI, y, hv, hv2⟩ := id hr
  subst hv
  have t15 : S' 15 = (9, L) := k1.trans hl
  have t81 : S' 81 = (7, 33) := k3
  have j15 : J 15 = sc.2 := k4
  simp (disch := omega) only [w251_988, w251_988N, w251_989, w251_989N, w251_990, w251_991, w251_992, w251_993, w251_994, t15, t81, j15, aPush_s, aPush_n, vrf_s, vrf_n, true_and, and_true, false_and, and_false, true_imp_iff, false_imp_iff, not_true_eq_false, not_false_eq_true, eq_self, true_or, or_true, and_self, if_true, if_false, n_lit, n_of, n_an, nI_add, n_cl, n_ixT, le_T, Nat.reduceAdd, Nat.reduceLeDiff, Nat.add_assoc]
  refine RM_mono hr ?_
  rintro v ⟨S3, J3, R3, z3⟩ ⟨hI3, y3, e1, e2⟩
  subst e2
  cases e1
  simp (disch := omega) only [w251_997, w251_1523, w251_1526, w251_1529, w251_1530, aPush_s, aPush_n, vrf_s, vrf_n, true_and, and_true, false_and, and_false, true_imp_iff, false_imp_iff, not_true_eq_false, not_false_eq_true, eq_self, true_or, or_true, and_self, if_true, if_false, n_lit, n_of, n_an, nI_add, n_cl, n_ixT, le_T, Nat.reduceAdd, Nat.reduceLeDiff, Nat.add_assoc]
  exact hQ S3 J3 R3 z3 hI3
theorem q105 (h : Inv sc n S I R z) (hl : sc.1 = (9, L)) (hL : L ≤ 3072) (hi : i + 6 ≤ L) (hQ : ∀ S' J R' z', Inv sc (n + 1) S' J R' z' → RB (d + 300) 251 18 [.ref 15, .ref 16, .ref 81, .int (nI (i + 6))] [] (S', J, R', z') Q) : RB (d + 300) 251 1002 [.ref 15, .ref 16, .ref 81, .int (nI i)] [] (S, I, R, z) Q := by
  have s15 : S 15 = (9, L) := h.1.1.1.trans hl
  have s16 : S 16 = (6, 10) := h.1.1.2.1
  have i15 : I 15 = sc.2 := h.1.2
  simp (disch := omega) only [w251_1002, w251_1002N, w251_1003, s15, s16, i15, aPush_s, aPush_n, vrf_s, vrf_n, true_and, and_true, false_and, and_false, true_imp_iff, false_imp_iff, not_true_eq_false, not_false_eq_true, eq_self, true_or, or_true, and_self, if_true, if_false, n_lit, n_of, n_an, nI_add, n_cl, n_ixT, le_T, Nat.reduceAdd, Nat.reduceLeDiff, Nat.add_assoc]
  refine RM_mono (p105 h) ?_
  rintro v ⟨S', J, R', z'⟩ ⟨⟨⟨k1, k2, k3⟩, k4⟩, hr⟩
  obtain ⟨n0, v2, τ2, hrun, hI, y, hv, hv2⟩ := id hr
  subst hv
  have t15 : S' 15 = (9, L) := k1.trans hl
  have t81 : S' 81 = (7, 33) := k3
  have j15 : J 15 = sc.2 := k4
  simp (disch := omega) only [w251_1006, w251_1006N, w251_1007, t15, t81, j15, aPush_s, aPush_n, vrf_s, vrf_n, true_and, and_true, false_and, and_false, true_imp_iff, false_imp_iff, not_true_eq_false, not_false_eq_true, eq_self, true_or, or_true, and_self, if_true, if_false, n_lit, n_of, n_an, nI_add, n_cl, n_ixT, le_T, Nat.reduceAdd, Nat.reduceLeDiff, Nat.add_assoc]
  refine RM_mono hr ?_
  rintro v ⟨S3, J3, R3, z3⟩ ⟨hI3, y3, e1, e2⟩
  subst e2
  cases e1
  simp (disch := omega) only [w251_1010, w251_1523, w251_1526, w251_1529, w251_1530, aPush_s, aPush_n, vrf_s, vrf_n, true_and, and_true, false_and, and_false, true_imp_iff, false_imp_iff, not_true_eq_false, not_false_eq_true, eq_self, true_or, or_true, and_self, if_true, if_false, n_lit, n_of, n_an, nI_add, n_cl, n_ixT, le_T, Nat.reduceAdd, Nat.reduceLeDiff, Nat.add_assoc]
  exact hQ S3 J3 R3 z3 hI3
theorem q106 (h : Inv sc n S I R z) (hl : sc.1 = (9, L)) (hL : L ≤ 3072) (hi : i + 6 ≤ L) (hQ : ∀ S' J R' z', Inv sc (n + 1) S' J R' z' → RB (d + 300) 251 18 [.ref 15, .ref 16, .ref 81, .int (nI (i + 6))] [] (S', J, R', z') Q) : RB (d + 300) 251 1015 [.ref 15, .ref 16, .ref 81, .int (nI i)] [] (S, I, R, z) Q := by
  have s15 : S 15 = (9, L) := h.1.1.1.trans hl
  have s16 : S 16 = (6, 10) := h.1.1.2.1
  have i15 : I 15 = sc.2 := h.1.2
  simp (disch := omega) only [w251_1015, w251_1015N, w251_1016, w251_1016N, w251_1017, w251_1018, w251_1019, w251_1020, w251_1021, w251_1021N, w251_1022, w251_1023, w251_1024, w251_1025, w251_1026, s15, s16, i15, aPush_s, aPush_n, vrf_s, vrf_n, true_and, and_true, false_and, and_false, true_imp_iff, false_imp_iff, not_true_eq_false, not_false_eq_true, eq_self, true_or, or_true, and_self, if_true, if_false, n_lit, n_of, n_an, nI_add, n_cl, n_ixT, le_T, Nat.reduceAdd, Nat.reduceLeDiff, Nat.add_assoc]
  refine RM_mono (p106 h) ?_
  rintro v ⟨S', J, R', z'⟩ ⟨⟨⟨k1, k2, k3⟩, k4⟩, hr⟩
  obtain ⟨n0, v2, τ2, hrun, hI, y, hv, hv2⟩ := id hr
  subst hv
  have t15 : S' 15 = (9, L) := k1.trans hl
  have t81 : S' 81 = (7, 33) := k3
  have j15 : J 15 = sc.2 := k4
  simp (disch := omega) only [w251_1029, w251_1029N, w251_1030, w251_1030N, w251_1031, w251_1032, w251_1033, w251_1034, w251_1035, w251_1035N, w251_1036, w251_1037, w251_1038, w251_1039, w251_1040, t15, t81, j15, aPush_s, aPush_n, vrf_s, vrf_n, true_and, and_true, false_and, and_false, true_imp_iff, false_imp_iff, not_true_eq_false, not_false_eq_true, eq_self, true_or, or_true, and_self, if_true, if_false, n_lit, n_of, n_an, nI_add, n_cl, n_ixT, le_T, Nat.reduceAdd, Nat.reduceLeDiff, Nat.add_assoc]
  refine RM_mono hr ?_
  rintro v ⟨S3, J3, R3, z3⟩ ⟨hI3, y3, e1, e2⟩
  subst e2
  cases e1
  simp (disch := omega) only [w251_1043, w251_1523, w251_1526, w251_1529, w251_1530, aPush_s, aPush_n, vrf_s, vrf_n, true_and, and_true, false_and, and_false, true_imp_iff, false_imp_iff, not_true_eq_false, not_false_eq_true, eq_self, true_or, or_true, and_self, if_true, if_false, n_lit, n_of, n_an, nI_add, n_cl, n_ixT, le_T, Nat.reduceAdd, Nat.reduceLeDiff, Nat.add_assoc]
  exact hQ S3 J3 R3 z3 hI3
theorem q107 (h : Inv sc n S I R z) (hl : sc.1 = (9, L)) (hL : L ≤ 3072) (hi : i + 6 ≤ L) (hQ : ∀ S' J R' z', Inv sc (n + 1) S' J R' z' → RB (d + 300) 251 18 [.ref 15, .ref 16, .ref 81, .int (nI (i + 6))] [] (S', J, R', z') Q) : RB (d + 300) 251 1048 [.ref 15, .ref 16, .ref 81, .int (nI i)] [] (S, I, R, z) Q := by
  have s15 : S 15 = (9, L) := h.1.1.1.trans hl
  have s16 : S 16 = (6, 10) := h.1.1.2.1
  have i15 : I 15 = sc.2 := h.1.2
  simp (disch := omega) only [w251_1048, w251_1048N, w251_1049, w251_1049N, w251_1050, w251_1051, w251_1052, w251_1053, w251_1054, s15, s16, i15, aPush_s, aPush_n, vrf_s, vrf_n, true_and, and_true, false_and, and_false, true_imp_iff, false_imp_iff, not_true_eq_false, not_false_eq_true, eq_self, true_or, or_true, and_self, if_true, if_false, n_lit, n_of, n_an, nI_add, n_cl, n_ixT, le_T, Nat.reduceAdd, Nat.reduceLeDiff, Nat.add_assoc]
  refine RM_mono (p107 h) ?_
  rintro v ⟨S', J, R', z'⟩ ⟨⟨⟨k1, k2, k3⟩, k4⟩, hr⟩
  obtain ⟨n0, v2, τ2, hrun, hI, y, hv, hv2⟩ := id hr
  subst hv
  have t15 : S' 15 = (9, L) := k1.trans hl
  have t81 : S' 81 = (7, 33) := k3
  have j15 : J 15 = sc.2 := k4
  simp (disch := omega) only [w251_1057, w251_1057N, w251_1058, w251_1058N, w251_1059, w251_1060, w251_1061, w251_1062, w251_1063, t15, t81, j15, aPush_s, aPush_n, vrf_s, vrf_n, true_and, and_true, false_and, and_false, true_imp_iff, false_imp_iff, not_true_eq_false, not_false_eq_true, eq_self, true_or, or_true, and_self, if_true, if_false, n_lit, n_of, n_an, nI_add, n_cl, n_ixT, le_T, Nat.reduceAdd, Nat.reduceLeDiff, Nat.add_assoc]
  refine RM_mono hr ?_
  rintro v ⟨S3, J3, R3, z3⟩ ⟨hI3, y3, e1, e2⟩
  subst e2
  cases e1
  simp (disch := omega) only [w251_1066, w251_1523, w251_1526, w251_1529, w251_1530, aPush_s, aPush_n, vrf_s, vrf_n, true_and, and_true, false_and, and_false, true_imp_iff, false_imp_iff, not_true_eq_false, not_false_eq_true, eq_self, true_or, or_true, and_self, if_true, if_false, n_lit, n_of, n_an, nI_add, n_cl, n_ixT, le_T, Nat.reduceAdd, Nat.reduceLeDiff, Nat.add_assoc]
  exact hQ S3 J3 R3 z3 hI3
theorem q108 (h : Inv sc n S I R z) (hl : sc.1 = (9, L)) (hL : L ≤ 3072) (hi : i + 6 ≤ L) (hQ : ∀ S' J R' z', Inv sc (n + 1) S' J R' z' → RB (d + 300) 251 18 [.ref 15, .ref 16, .ref 81, .int (nI (i + 6))] [] (S', J, R', z') Q) : RB (d + 300) 251 1071 [.ref 15, .ref 16, .ref 81, .int (nI i)] [] (S, I, R, z) Q := by
  have s15 : S 15 = (9, L) := h.1.1.1.trans hl
  have s16 : S 16 = (6, 10) := h.1.1.2.1
  have i15 : I 15 = sc.2 := h.1.2
  simp (disch := omega) only [w251_1071, w251_1071N, w251_1072, w251_1072N, w251_1073, w251_1074, w251_1075, w251_1076, w251_1077, w251_1077N, w251_1078, w251_1079, w251_1080, w251_1081, w251_1082, w251_1082N, w251_1083, w251_1084, w251_1085, w251_1086, w251_1087, s15, s16, i15, aPush_s, aPush_n, vrf_s, vrf_n, true_and, and_true, false_and, and_false, true_imp_iff, false_imp_iff, not_true_eq_false, not_false_eq_true, eq_self, true_or, or_true, and_self, if_true, if_false, n_lit, n_of, n_an, nI_add, n_cl, n_ixT, le_T, Nat.reduceAdd, Nat.reduceLeDiff, Nat.add_assoc]
  refine RM_mono (p108 h) ?_
  rintro v ⟨S', J, R', z'⟩ ⟨⟨⟨k1, k2, k3⟩, k4⟩, hr⟩
  obtain ⟨n0, v2, τ2, hrun, hI, y, hv, hv2⟩ := id hr
  subst hv
  have t15 : S' 15 = (9, L) := k1.trans hl
  have t81 : S' 81 = (7, 33) := k3
  have j15 : J 15 = sc.2 := k4
  simp (disch := omega) only [w251_1090, w251_1090N, w251_1091, w251_1091N, w251_1092, w251_1093, w251_1094, w251_1095, w251_1096, w251_1096N, w251_1097, w251_1098, w251_1099, w251_1100, w251_1101, w251_1101N, w251_1102, w251_1103, w251_1104, w251_1105, w251_1106, t15, t81, j15, aPush_s, aPush_n, vrf_s, vrf_n, true_and, and_true, false_and, and_false, true_imp_iff, false_imp_iff, not_true_eq_false, not_false_eq_true, eq_self, true_or, or_true, and_self, if_true, if_false, n_lit, n_of, n_an, nI_add, n_cl, n_ixT, le_T, Nat.reduceAdd, Nat.reduceLeDiff, Nat.add_assoc]
  refine RM_mono hr ?_
  rintro v ⟨S3, J3, R3, z3⟩ ⟨hI3, y3, e1, e2⟩
  subst e2
  cases e1
  simp (disch := omega) only [w251_1109, w251_1523, w251_1526, w251_1529, w251_1530, aPush_s, aPush_n, vrf_s, vrf_n, true_and, and_true, false_and, and_false, true_imp_iff, false_imp_iff, not_true_eq_false, not_false_eq_true, eq_self, true_or, or_true, and_self, if_true, if_false, n_lit, n_of, n_an, nI_add, n_cl, n_ixT, le_T, Nat.reduceAdd, Nat.reduceLeDiff, Nat.add_assoc]
  exact hQ S3 J3 R3 z3 hI3
theorem q109 (h : Inv sc n S I R z) (hl : sc.1 = (9, L)) (hL : L ≤ 3072) (hi : i + 6 ≤ L) (hQ : ∀ S' J R' z', Inv sc (n + 1) S' J R' z' → RB (d + 300) 251 18 [.ref 15, .ref 16, .ref 81, .int (nI (i + 6))] [] (S', J, R', z') Q) : RB (d + 300) 251 1114 [.ref 15, .ref 16, .ref 81, .int (nI i)] [] (S, I, R, z) Q := by
  have s15 : S 15 = (9, L) := h.1.1.1.trans hl
  have s16 : S 16 = (6, 10) := h.1.1.2.1
  have i15 : I 15 = sc.2 := h.1.2
  simp (disch := omega) only [w251_1114, w251_1114N, w251_1115, w251_1115N, w251_1116, w251_1117, w251_1118, w251_1119, w251_1120, w251_1120N, w251_1121, w251_1122, w251_1123, w251_1124, w251_1125, w251_1125N, w251_1126, w251_1127, w251_1128, w251_1129, w251_1130, s15, s16, i15, aPush_s, aPush_n, vrf_s, vrf_n, true_and, and_true, false_and, and_false, true_imp_iff, false_imp_iff, not_true_eq_false, not_false_eq_true, eq_self, true_or, or_true, and_self, if_true, if_false, n_lit, n_of, n_an, nI_add, n_cl, n_ixT, le_T, Nat.reduceAdd, Nat.reduceLeDiff, Nat.add_assoc]
  refine RM_mono (p109 h) ?_
  rintro v ⟨S', J, R', z'⟩ ⟨⟨⟨k1, k2, k3⟩, k4⟩, hr⟩
  obtain ⟨n0, v2, τ2, hrun, hI, y, hv, hv2⟩ := id hr
  subst hv
  have t15 : S' 15 = (9, L) := k1.trans hl
  have t81 : S' 81 = (7, 33) := k3
  have j15 : J 15 = sc.2 := k4
  simp (disch := omega) only [w251_1133, w251_1133N, w251_1134, w251_1134N, w251_1135, w251_1136, w251_1137, w251_1138, w251_1139, w251_1139N, w251_1140, w251_1141, w251_1142, w251_1143, w251_1144, w251_1144N, w251_1145, w251_1146, w251_1147, w251_1148, w251_1149, t15, t81, j15, aPush_s, aPush_n, vrf_s, vrf_n, true_and, and_true, false_and, and_false, true_imp_iff, false_imp_iff, not_true_eq_false, not_false_eq_true, eq_self, true_or, or_true, and_self, if_true, if_false, n_lit, n_of, n_an, nI_add, n_cl, n_ixT, le_T, Nat.reduceAdd, Nat.reduceLeDiff, Nat.add_assoc]
  refine RM_mono hr ?_
  rintro v ⟨S3, J3, R3, z3⟩ ⟨hI3, y3, e1, e2⟩
  subst e2
  cases e1
  simp (disch := omega) only [w251_1152, w251_1523, w251_1526, w251_1529, w251_1530, aPush_s, aPush_n, vrf_s, vrf_n, true_and, and_true, false_and, and_false, true_imp_iff, false_imp_iff, not_true_eq_false, not_false_eq_true, eq_self, true_or, or_true, and_self, if_true, if_false, n_lit, n_of, n_an, nI_add, n_cl, n_ixT, le_T, Nat.reduceAdd, Nat.reduceLeDiff, Nat.add_assoc]
  exact hQ S3 J3 R3 z3 hI3
theorem q110 (h : Inv sc n S I R z) (hl : sc.1 = (9, L)) (hL : L ≤ 3072) (hi : i + 6 ≤ L) (hQ : ∀ S' J R' z', Inv sc (n + 1) S' J R' z' → RB (d + 300) 251 18 [.ref 15, .ref 16, .ref 81, .int (nI (i + 6))] [] (S', J, R', z') Q) : RB (d + 300) 251 1157 [.ref 15, .ref 16, .ref 81, .int (nI i)] [] (S, I, R, z) Q := by
  have s15 : S 15 = (9, L) := h.1.1.1.trans hl
  have s16 : S 16 = (6, 10) := h.1.1.2.1
  have i15 : I 15 = sc.2 := h.1.2
  simp (disch := omega) only [w251_1157, w251_1157N, w251_1158, w251_1158N, w251_1159, w251_1160, w251_1161, w251_1162, w251_1163, s15, s16, i15, aPush_s, aPush_n, vrf_s, vrf_n, true_and, and_true, false_and, and_false, true_imp_iff, false_imp_iff, not_true_eq_false, not_false_eq_true, eq_self, true_or, or_true, and_self, if_true, if_false, n_lit, n_of, n_an, nI_add, n_cl, n_ixT, le_T, Nat.reduceAdd, Nat.reduceLeDiff, Nat.add_assoc]
  refine RM_mono (p110 h) ?_
  rintro v ⟨S', J, R', z'⟩ ⟨⟨⟨k1, k2, k3⟩, k4⟩, hr⟩
  obtain ⟨n0, v2, τ2, hrun, hI, y, hv, hv2⟩ := id hr
  subst hv
  have t15 : S' 15 = (9, L) := k1.trans hl
  have t81 : S' 81 = (7, 33) := k3
  have j15 : J 15 = sc.2 := k4
  simp (disch := omega) only [w251_1166, w251_1166N, w251_1167, w251_1167N, w251_1168, w251_1169, w251_1170, w251_1171, w251_1172, t15, t81, j15, aPush_s, aPush_n, vrf_s, vrf_n, true_and, and_true, false_and, and_false, true_imp_iff, false_imp_iff, not_true_eq_false, not_false_eq_true, eq_self, true_or, or_true, and_self, if_true, if_false, n_lit, n_of, n_an, nI_add, n_cl, n_ixT, le_T, Nat.reduceAdd, Nat.reduceLeDiff, Nat.add_assoc]
  refine RM_mono hr ?_
  rintro v ⟨S3, J3, R3, z3⟩ ⟨hI3, y3, e1, e2⟩
  subst e2
  cases e1
  simp (disch := omega) only [w251_1175, w251_1523, w251_1526, w251_1529, w251_1530, aPush_s, aPush_n, vrf_s, vrf_n, true_and, and_true, false_and, and_false, true_imp_iff, false_imp_iff, not_true_eq_false, not_false_eq_true, eq_self, true_or, or_true, and_self, if_true, if_false, n_lit, n_of, n_an, nI_add, n_cl, n_ixT, le_T, Nat.reduceAdd, Nat.reduceLeDiff, Nat.add_assoc]
  exact hQ S3 J3 R3 z3 hI3
theorem q111 (h : Inv sc n S I R z) (hl : sc.1 = (9, L)) (hL : L ≤ 3072) (hi : i + 6 ≤ L) (hQ : ∀ S' J R' z', Inv sc (n + 1) S' J R' z' → RB (d + 300) 251 18 [.ref 15, .ref 16, .ref 81, .int (nI (i + 6))] [] (S', J, R', z') Q) : RB (d + 300) 251 1180 [.ref 15, .ref 16, .ref 81, .int (nI i)] [] (S, I, R, z) Q := by
  have s15 : S 15 = (9, L) := h.1.1.1.trans hl
  have s16 : S 16 = (6, 10) := h.1.1.2.1
  have i15 : I 15 = sc.2 := h.1.2
  simp (disch := omega) only [w251_1180, w251_1180N, w251_1181, w251_1181N, w251_1182, w251_1183, w251_1184, w251_1185, w251_1186, w251_1186N, w251_1187, w251_1188, w251_1189, w251_1190, w251_1191, s15, s16, i15, aPush_s, aPush_n, vrf_s, vrf_n, true_and, and_true, false_and, and_false, true_imp_iff, false_imp_iff, not_true_eq_false, not_false_eq_true, eq_self, true_or, or_true, and_self, if_true, if_false, n_lit, n_of, n_an, nI_add, n_cl, n_ixT, le_T, Nat.reduceAdd, Nat.reduceLeDiff, Nat.add_assoc]
  refine RM_mono (p111 h) ?_
  rintro v ⟨S', J, R', z'⟩ ⟨⟨⟨k1, k2, k3⟩, k4⟩, hr⟩
  obtain ⟨n0, v2, τ2, hrun, hI, y, hv, hv2⟩ := id hr
  subst hv
  have t15 : S' 15 = (9, L) := k1.trans hl
  have t81 : S' 81 = (7, 33) := k3
  have j15 : J 15 = sc.2 := k4
  simp (disch := omega) only [w251_1194, w251_1194N, w251_1195, w251_1195N, w251_1196, w251_1197, w251_1198, w251_1199, w251_1200, w251_1200N, w251_1201, w251_1202, w251_1203, w251_1204, w251_1205, t15, t81, j15, aPush_s, aPush_n, vrf_s, vrf_n, true_and, and_true, false_and, and_false, true_imp_iff, false_imp_iff, not_true_eq_false, not_false_eq_true, eq_self, true_or, or_true, and_self, if_true, if_false, n_lit, n_of, n_an, nI_add, n_cl, n_ixT, le_T, Nat.reduceAdd, Nat.reduceLeDiff, Nat.add_assoc]
  refine RM_mono hr ?_
  rintro v ⟨S3, J3, R3, z3⟩ ⟨hI3, y3, e1, e2⟩
  subst e2
  cases e1
  simp (disch := omega) only [w251_1208, w251_1523, w251_1526, w251_1529, w251_1530, aPush_s, aPush_n, vrf_s, vrf_n, true_and, and_true, false_and, and_false, true_imp_iff, false_imp_iff, not_true_eq_false, not_false_eq_true, eq_self, true_or, or_true, and_self, if_true, if_false, n_lit, n_of, n_an, nI_add, n_cl, n_ixT, le_T, Nat.reduceAdd, Nat.reduceLeDiff, Nat.add_assoc]
  exact hQ S3 J3 R3 z3 hI3
theorem q112 (h : Inv sc n S I R z) (hl : sc.1 = (9, L)) (hL : L ≤ 3072) (hi : i + 6 ≤ L) (hQ : ∀ S' J R' z', Inv sc (n + 1) S' J R' z' → RB (d + 300) 251 18 [.ref 15, .ref 16, .ref 81, .int (nI (i + 6))] [] (S', J, R', z') Q) : RB (d + 300) 251 1213 [.ref 15, .ref 16, .ref 81, .int (nI i)] [] (S, I, R, z) Q := by
  have s15 : S 15 = (9, L) := h.1.1.1.trans hl
  have s16 : S 16 = (6, 10) := h.1.1.2.1
  have i15 : I 15 = sc.2 := h.1.2
  simp (disch := omega) only [w251_1213, w251_1213N, w251_1214, w251_1214N, w251_1215, w251_1216, w251_1217, w251_1218, w251_1219, w251_1219N, w251_1220, w251_1221, w251_1222, w251_1223, w251_1224, w251_1224N, w251_1225, w251_1226, w251_1227, w251_1228, w251_1229, w251_1229N, w251_1230, w251_1231, w251_1232, w251_1233, w251_1234, w251_1234N, w251_1235, w251_1236, w251_1237, w251_1238, w251_1239, s15, s16, i15, aPush_s, aPush_n, vrf_s, vrf_n, true_and, and_true, false_and, and_false, true_imp_iff, false_imp_iff, not_true_eq_false, not_false_eq_true, eq_self, true_or, or_true, and_self, if_true, if_false, n_lit, n_of, n_an, nI_add, n_cl, n_ixT, le_T, Nat.reduceAdd, Nat.reduceLeDiff, Nat.add_assoc]
  refine RM_mono (p112 h) ?_
  rintro v ⟨S', J, R', z'⟩ ⟨⟨⟨k1, k2, k3⟩, k4⟩, hr⟩
  obtain ⟨n0, v2, τ2, hrun, hI, y, hv, hv2⟩ := id hr
  subst hv
  have t15 : S' 15 = (9, L) := k1.trans hl
  have t81 : S' 81 = (7, 33) := k3
  have j15 : J 15 = sc.2 := k4
  simp (disch := omega) only [w251_1242, w251_1242N, w251_1243, w251_1243N, w251_1244, w251_1245, w251_1246, w251_1247, w251_1248, w251_1248N, w251_1249, w251_1250, w251_1251, w251_1252, w251_1253, w251_1253N, w251_1254, w251_1255, w251_1256, w251_1257, w251_1258, w251_1258N, w251_1259, w251_1260, w251_1261, w251_1262, w251_1263, w251_1263N, w251_1264, w251_1265, w251_1266, w251_1267, w251_1268, t15, t81, j15, aPush_s, aPush_n, vrf_s, vrf_n, true_and, and_true, false_and, and_false, true_imp_iff, false_imp_iff, not_true_eq_false, not_false_eq_true, eq_self, true_or, or_true, and_self, if_true, if_false, n_lit, n_of, n_an, nI_add, n_cl, n_ixT, le_T, Nat.reduceAdd, Nat.reduceLeDiff, Nat.add_assoc]
  refine RM_mono hr ?_
  rintro v ⟨S3, J3, R3, z3⟩ ⟨hI3, y3, e1, e2⟩
  subst e2
  cases e1
  simp (disch := omega) only [w251_1271, w251_1523, w251_1526, w251_1529, w251_1530, aPush_s, aPush_n, vrf_s, vrf_n, true_and, and_true, false_and, and_false, true_imp_iff, false_imp_iff, not_true_eq_false, not_false_eq_true, eq_self, true_or, or_true, and_self, if_true, if_false, n_lit, n_of, n_an, nI_add, n_cl, n_ixT, le_T, Nat.reduceAdd, Nat.reduceLeDiff, Nat.add_assoc]
  exact hQ S3 J3 R3 z3 hI3
theorem q113 (h : Inv sc n S I R z) (hl : sc.1 = (9, L)) (hL : L ≤ 3072) (hi : i + 6 ≤ L) (hQ : ∀ S' J R' z', Inv sc (n + 1) S' J R' z' → RB (d + 300) 251 18 [.ref 15, .ref 16, .ref 81, .int (nI (i + 6))] [] (S', J, R', z') Q) : RB (d + 300) 251 1276 [.ref 15, .ref 16, .ref 81, .int (nI i)] [] (S, I, R, z) Q := by
  have s15 : S 15 = (9, L) := h.1.1.1.trans hl
  have s16 : S 16 = (6, 10) := h.1.1.2.1
  have i15 : I 15 = sc.2 := h.1.2
  simp (disch := omega) only [w251_1276, w251_1276N, w251_1277, w251_1277N, w251_1278, w251_1279, w251_1280, w251_1281, w251_1282, w251_1282N, w251_1283, w251_1284, w251_1285, w251_1286, w251_1287, w251_1287N, w251_1288, w251_1289, w251_1290, w251_1291, w251_1292, s15, s16, i15, aPush_s, aPush_n, vrf_s, vrf_n, true_and, and_true, false_and, and_false, true_imp_iff, false_imp_iff, not_true_eq_false, not_false_eq_true, eq_self, true_or, or_true, and_self, if_true, if_false, n_lit, n_of, n_an, nI_add, n_cl, n_ixT, le_T, Nat.reduceAdd, Nat.reduceLeDiff, Nat.add_assoc]
  refine RM_mono (p113 h) ?_
  rintro v ⟨S', J, R', z'⟩ ⟨⟨⟨k1, k2, k3⟩, k4⟩, hr⟩
  obtain ⟨n0, v2, τ2, hrun, hI, y, hv, hv2⟩ := id hr
  subst hv
  have t15 : S' 15 = (9, L) := k1.trans hl
  have t81 : S' 81 = (7, 33) := k3
  have j15 : J 15 = sc.2 := k4
  simp (disch := omega) only [w251_1295, w251_1295N, w251_1296, w251_1296N, w251_1297, w251_1298, w251_1299, w251_1300, w251_1301, w251_1301N, w251_1302, w251_1303, w251_1304, w251_1305, w251_1306, w251_1306N, w251_1307, w251_1308, w251_1309, w251_1310, w251_1311, t15, t81, j15, aPush_s, aPush_n, vrf_s, vrf_n, true_and, and_true, false_and, and_false, true_imp_iff, false_imp_iff, not_true_eq_false, not_false_eq_true, eq_self, true_or, or_true, and_self, if_true, if_false, n_lit, n_of, n_an, nI_add, n_cl, n_ixT, le_T, Nat.reduceAdd, Nat.reduceLeDiff, Nat.add_assoc]
  refine RM_mono hr ?_
  rintro v ⟨S3, J3, R3, z3⟩ ⟨hI3, y3, e1, e2⟩
  subst e2
  cases e1
  simp (disch := omega) only [w251_1314, w251_1523, w251_1526, w251_1529, w251_1530, aPush_s, aPush_n, vrf_s, vrf_n, true_and, and_true, false_and, and_false, true_imp_iff, false_imp_iff, not_true_eq_false, not_false_eq_true, eq_self, true_or, or_true, and_self, if_true, if_false, n_lit, n_of, n_an, nI_add, n_cl, n_ixT, le_T, Nat.reduceAdd, Nat.reduceLeDiff, Nat.add_assoc]
  exact hQ S3 J3 R3 z3 hI3
theorem q114 (h : Inv sc n S I R z) (hl : sc.1 = (9, L)) (hL : L ≤ 3072) (hi : i + 6 ≤ L) (hQ : ∀ S' J R' z', Inv sc (n + 1) S' J R' z' → RB (d + 300) 251 18 [.ref 15, .ref 16, .ref 81, .int (nI (i + 6))] [] (S', J, R', z') Q) : RB (d + 300) 251 1319 [.ref 15, .ref 16, .ref 81, .int (nI i)] [] (S, I, R, z) Q := by
  have s15 : S 15 = (9, L) := h.1.1.1.trans hl
  have s16 : S 16 = (6, 10) := h.1.1.2.1
  have i15 : I 15 = sc.2 := h.1.2
  simp (disch := omega) only [w251_1319, w251_1319N, w251_1320, w251_1320N, w251_1321, w251_1322, w251_1323, w251_1324, w251_1325, w251_1325N, w251_1326, w251_1327, w251_1328, w251_1329, w251_1330, s15, s16, i15, aPush_s, aPush_n, vrf_s, vrf_n, true_and, and_true, false_and, and_false, true_imp_iff, false_imp_iff, not_true_eq_false, not_false_eq_true, eq_self, true_or, or_true, and_self, if_true, if_false, n_lit, n_of, n_an, nI_add, n_cl, n_ixT, le_T, Nat.reduceAdd, Nat.reduceLeDiff, Nat.add_assoc]
  refine RM_mono (p114 h) ?_
  rintro v ⟨S', J, R', z'⟩ ⟨⟨⟨k1, k2, k3⟩, k4⟩, hr⟩
  obtain ⟨n0, v2, τ2, hrun, hI, y, hv, hv2⟩ := id hr
  subst hv
  have t15 : S' 15 = (9, L) := k1.trans hl
  have t81 : S' 81 = (7, 33) := k3
  have j15 : J 15 = sc.2 := k4
  simp (disch := omega) only [w251_1333, w251_1333N, w251_1334, w251_1334N, w251_1335, w251_1336, w251_1337, w251_1338, w251_1339, w251_1339N, w251_1340, w251_1341, w251_1342, w251_1343, w251_1344, t15, t81, j15, aPush_s, aPush_n, vrf_s, vrf_n, true_and, and_true, false_and, and_false, true_imp_iff, false_imp_iff, not_true_eq_false, not_false_eq_true, eq_self, true_or, or_true, and_self, if_true, if_false, n_lit, n_of, n_an, nI_add, n_cl, n_ixT, le_T, Nat.reduceAdd, Nat.reduceLeDiff, Nat.add_assoc]
  refine RM_mono hr ?_
  rintro v ⟨S3, J3, R3, z3⟩ ⟨hI3, y3, e1, e2⟩
  subst e2
  cases e1
  simp (disch := omega) only [w251_1347, w251_1523, w251_1526, w251_1529, w251_1530, aPush_s, aPush_n, vrf_s, vrf_n, true_and, and_true, false_and, and_false, true_imp_iff, false_imp_iff, not_true_eq_false, not_false_eq_true, eq_self, true_or, or_true, and_self, if_true, if_false, n_lit, n_of, n_an, nI_add, n_cl, n_ixT, le_T, Nat.reduceAdd, Nat.reduceLeDiff, Nat.add_assoc]
  exact hQ S3 J3 R3 z3 hI3
theorem q115 (h : Inv sc n S I R z) (hl : sc.1 = (9, L)) (hL : L ≤ 3072) (hi : i + 6 ≤ L) (hQ : ∀ S' J R' z', Inv sc (n + 1) S' J R' z' → RB (d + 300) 251 18 [.ref 15, .ref 16, .ref 81, .int (nI (i + 6))] [] (S', J, R', z') Q) : RB (d + 300) 251 1352 [.ref 15, .ref 16, .ref 81, .int (nI i)] [] (S, I, R, z) Q := by
  have s15 : S 15 = (9, L) := h.1.1.1.trans hl
  have s16 : S 16 = (6, 10) := h.1.1.2.1
  have i15 : I 15 = sc.2 := h.1.2
  simp (disch := omega) only [w251_1352, w251_1352N, w251_1353, w251_1353N, w251_1354, w251_1355, w251_1356, w251_1357, w251_1358, w251_1358N, w251_1359, w251_1360, w251_1361, w251_1362, w251_1363, s15, s16, i15, aPush_s, aPush_n, vrf_s, vrf_n, true_and, and_true, false_and, and_false, true_imp_iff, false_imp_iff, not_true_eq_false, not_false_eq_true, eq_self, true_or, or_true, and_self, if_true, if_false, n_lit, n_of, n_an, nI_add, n_cl, n_ixT, le_T, Nat.reduceAdd, Nat.reduceLeDiff, Nat.add_assoc]
  refine RM_mono (p115 h) ?_
  rintro v ⟨S', J, R', z'⟩ ⟨⟨⟨k1, k2, k3⟩, k4⟩, hr⟩
  obtain ⟨n0, v2, τ2, hrun, hI, y, hv, hv2⟩ := id hr
  subst hv
  have t15 : S' 15 = (9, L) := k1.trans hl
  have t81 : S' 81 = (7, 33) := k3
  have j15 : J 15 = sc.2 := k4
  simp (disch := omega) only [w251_1366, w251_1366N, w251_1367, w251_1367N, w251_1368, w251_1369, w251_1370, w251_1371, w251_1372, w251_1372N, w251_1373, w251_1374, w251_1375, w251_1376, w251_1377, t15, t81, j15, aPush_s, aPush_n, vrf_s, vrf_n, true_and, and_true, false_and, and_false, true_imp_iff, false_imp_iff, not_true_eq_false, not_false_eq_true, eq_self, true_or, or_true, and_self, if_true, if_false, n_lit, n_of, n_an, nI_add, n_cl, n_ixT, le_T, Nat.reduceAdd, Nat.reduceLeDiff, Nat.add_assoc]
  refine RM_mono hr ?_
  rintro v ⟨S3, J3, R3, z3⟩ ⟨hI3, y3, e1, e2⟩
  subst e2
  cases e1
  simp (disch := omega) only [w251_1380, w251_1523, w251_1526, w251_1529, w251_1530, aPush_s, aPush_n, vrf_s, vrf_n, true_and, and_true, false_and, and_false, true_imp_iff, false_imp_iff, not_true_eq_false, not_false_eq_true, eq_self, true_or, or_true, and_self, if_true, if_false, n_lit, n_of, n_an, nI_add, n_cl, n_ixT, le_T, Nat.reduceAdd, Nat.reduceLeDiff, Nat.add_assoc]
  exact hQ S3 J3 R3 z3 hI3
theorem q116 (h : Inv sc n S I R z) (hl : sc.1 = (9, L)) (hL : L ≤ 3072) (hi : i + 6 ≤ L) (hQ : ∀ S' J R' z', Inv sc (n + 1) S' J R' z' → RB (d + 300) 251 18 [.ref 15, .ref 16, .ref 81, .int (nI (i + 6))] [] (S', J, R', z') Q) : RB (d + 300) 251 1385 [.ref 15, .ref 16, .ref 81, .int (nI i)] [] (S, I, R, z) Q := by
  have s15 : S 15 = (9, L) := h.1.1.1.trans hl
  have s16 : S 16 = (6, 10) := h.1.1.2.1
  have i15 : I 15 = sc.2 := h.1.2
  simp (disch := omega) only [w251_1385, w251_1385N, w251_1386, w251_1386N, w251_1387, w251_1388, w251_1389, w251_1390, w251_1391, w251_1391N, w251_1392, w251_1393, w251_1394, w251_1395, w251_1396, s15, s16, i15, aPush_s, aPush_n, vrf_s, vrf_n, true_and, and_true, false_and, and_false, true_imp_iff, false_imp_iff, not_true_eq_false, not_false_eq_true, eq_self, true_or, or_true, and_self, if_true, if_false, n_lit, n_of, n_an, nI_add, n_cl, n_ixT, le_T, Nat.reduceAdd, Nat.reduceLeDiff, Nat.add_assoc]
  refine RM_mono (p116 h) ?_
  rintro v ⟨S', J, R', z'⟩ ⟨⟨⟨k1, k2, k3⟩, k4⟩, hr⟩
  obtain ⟨n0, v2, τ2, hrun, hI, y, hv, hv2⟩ := id hr
  subst hv
  have t15 : S' 15 = (9, L) := k1.trans hl
  have t81 : S' 81 = (7, 33) := k3
  have j15 : J 15 = sc.2 := k4
  simp (disch := omega) only [w251_1399, w251_1399N, w251_1400, w251_1400N, w251_1401, w251_1402, w251_1403, w251_1404, w251_1405, w251_1405N, w251_1406, w251_1407, w251_1408, w251_1409, w251_1410, t15, t81, j15, aPush_s, aPush_n, vrf_s, vrf_n, true_and, and_true, false_and, and_false, true_imp_iff, false_imp_iff, not_true_eq_false, not_false_eq_true, eq_self, true_or, or_true, and_self, if_true, if_false, n_lit, n_of, n_an, nI_add, n_cl, n_ixT, le_T, Nat.reduceAdd, Nat.reduceLeDiff, Nat.add_assoc]
  refine RM_mono hr ?_
  rintro v ⟨S3, J3, R3, z3⟩ ⟨hI3, y3, e1, e2⟩
  subst e2
  cases e1
  simp (disch := omega) only [w251_1413, w251_1523, w251_1526, w251_1529, w251_1530, aPush_s, aPush_n, vrf_s, vrf_n, true_and, and_true, false_and, and_false, true_imp_iff, false_imp_iff, not_true_eq_false, not_false_eq_true, eq_self, true_or, or_true, and_self, if_true, if_false, n_lit, n_of, n_an, nI_add, n_cl, n_ixT, le_T, Nat.reduceAdd, Nat.reduceLeDiff, Nat.add_assoc]
  exact hQ S3 J3 R3 z3 hI3
theorem q117 (h : Inv sc n S I R z) (hl : sc.1 = (9, L)) (hL : L ≤ 3072) (hi : i + 6 ≤ L) (hQ : ∀ S' J R' z', Inv sc (n + 1) S' J R' z' → RB (d + 300) 251 18 [.ref 15, .ref 16, .ref 81, .int (nI (i + 6))] [] (S', J, R', z') Q) : RB (d + 300) 251 1418 [.ref 15, .ref 16, .ref 81, .int (nI i)] [] (S, I, R, z) Q := by
  have s15 : S 15 = (9, L) := h.1.1.1.trans hl
  have s16 : S 16 = (6, 10) := h.1.1.2.1
  have i15 : I 15 = sc.2 := h.1.2
  simp (disch := omega) only [w251_1418, w251_1418N, w251_1419, w251_1419N, w251_1420, w251_1421, w251_1422, w251_1423, w251_1424, s15, s16, i15, aPush_s, aPush_n, vrf_s, vrf_n, true_and, and_true, false_and, and_false, true_imp_iff, false_imp_iff, not_true_eq_false, not_false_eq_true, eq_self, true_or, or_true, and_self, if_true, if_false, n_lit, n_of, n_an, nI_add, n_cl, n_ixT, le_T, Nat.reduceAdd, Nat.reduceLeDiff, Nat.add_assoc]
  refine RM_mono (p117 h) ?_
  rintro v ⟨S', J, R', z'⟩ ⟨⟨⟨k1, k2, k3⟩, k4⟩, hr⟩
  obtain ⟨n0, v2, τ2, hrun, hI, y, hv, hv2⟩ := id hr
  subst hv
  have t15 : S' 15 = (9, L) := k1.trans hl
  have t81 : S' 81 = (7, 33) := k3
  have j15 : J 15 = sc.2 := k4
  simp (disch := omega) only [w251_1427, w251_1427N, w251_1428, w251_1428N, w251_1429, w251_1430, w251_1431, w251_1432, w251_1433, t15, t81, j15, aPush_s, aPush_n, vrf_s, vrf_n, true_and, and_true, false_and, and_false, true_imp_iff, false_imp_iff, not_true_eq_false, not_false_eq_true, eq_self, true_or, or_true, and_self, if_true, if_false, n_lit, n_of, n_an, nI_add, n_cl, n_ixT, le_T, Nat.reduceAdd, Nat.reduceLeDiff, Nat.add_assoc]
  refine RM_mono hr ?_
  rintro v ⟨S3, J3, R3, z3⟩ ⟨hI3, y3, e1, e2⟩
  subst e2
  cases e1
  simp (disch := omega) only [w251_1436, w251_1523, w251_1526, w251_1529, w251_1530, aPush_s, aPush_n, vrf_s, vrf_n, true_and, and_true, false_and, and_false, true_imp_iff, false_imp_iff, not_true_eq_false, not_false_eq_true, eq_self, true_or, or_true, and_self, if_true, if_false, n_lit, n_of, n_an, nI_add, n_cl, n_ixT, le_T, Nat.reduceAdd, Nat.reduceLeDiff, Nat.add_assoc]
  exact hQ S3 J3 R3 z3 hI3
theorem q118 (h : Inv sc n S I R z) (hl : sc.1 = (9, L)) (hL : L ≤ 3072) (hi : i + 6 ≤ L) (hQ : ∀ S' J R' z', Inv sc (n + 1) S' J R' z' → RB (d + 300) 251 18 [.ref 15, .ref 16, .ref 81, .int (nI (i + 6))] [] (S', J, R', z') Q) : RB (d + 300) 251 1441 [.ref 15, .ref 16, .ref 81, .int (nI i)] [] (S, I, R, z) Q := by
  have s15 : S 15 = (9, L) := h.1.1.1.trans hl
  have s16 : S 16 = (6, 10) := h.1.1.2.1
  have i15 : I 15 = sc.2 := h.1.2
  simp (disch := omega) only [w251_1441, w251_1441N, w251_1442, w251_1442N, w251_1443, w251_1444, w251_1445, w251_1446, w251_1447, w251_1447N, w251_1448, w251_1449, w251_1450, w251_1451, w251_1452, s15, s16, i15, aPush_s, aPush_n, vrf_s, vrf_n, true_and, and_true, false_and, and_false, true_imp_iff, false_imp_iff, not_true_eq_false, not_false_eq_true, eq_self, true_or, or_true, and_self, if_true, if_false, n_lit, n_of, n_an, nI_add, n_cl, n_ixT, le_T, Nat.reduceAdd, Nat.reduceLeDiff, Nat.add_assoc]
  refine RM_mono (p118 h) ?_
  rintro v ⟨S', J, R', z'⟩ ⟨⟨⟨k1, k2, k3⟩, k4⟩, hr⟩
  obtain ⟨n0, v2, τ2, hrun, hI, y, hv, hv2⟩ := id hr
  subst hv
  have t15 : S' 15 = (9, L) := k1.trans hl
  have t81 : S' 81 = (7, 33) := k3
  have j15 : J 15 = sc.2 := k4
  simp (disch := omega) only [w251_1455, w251_1455N, w251_1456, w251_1456N, w251_1457, w251_1458, w251_1459, w251_1460, w251_1461, w251_1461N, w251_1462, w251_1463, w251_1464, w251_1465, w251_1466, t15, t81, j15, aPush_s, aPush_n, vrf_s, vrf_n, true_and, and_true, false_and, and_false, true_imp_iff, false_imp_iff, not_true_eq_false, not_false_eq_true, eq_self, true_or, or_true, and_self, if_true, if_false, n_lit, n_of, n_an, nI_add, n_cl, n_ixT, le_T, Nat.reduceAdd, Nat.reduceLeDiff, Nat.add_assoc]
  refine RM_mono hr ?_
  rintro v ⟨S3, J3, R3, z3⟩ ⟨hI3, y3, e1, e2⟩
  subst e2
  cases e1
  simp (disch := omega) only [w251_1469, w251_1523, w251_1526, w251_1529, w251_1530, aPush_s, aPush_n, vrf_s, vrf_n, true_and, and_true, false_and, and_false, true_imp_iff, false_imp_iff, not_true_eq_false, not_false_eq_true, eq_self, true_or, or_true, and_self, if_true, if_false, n_lit, n_of, n_an, nI_add, n_cl, n_ixT, le_T, Nat.reduceAdd, Nat.reduceLeDiff, Nat.add_assoc]
  exact hQ S3 J3 R3 z3 hI3
theorem q119 (h : Inv sc n S I R z) (hl : sc.1 = (9, L)) (hL : L ≤ 3072) (hi : i + 6 ≤ L) (hQ : ∀ S' J R' z', Inv sc (n + 1) S' J R' z' → RB (d + 300) 251 18 [.ref 15, .ref 16, .ref 81, .int (nI (i + 6))] [] (S', J, R', z') Q) : RB (d + 300) 251 1474 [.ref 15, .ref 16, .ref 81, .int (nI i)] [] (S, I, R, z) Q := by
  have s15 : S 15 = (9, L) := h.1.1.1.trans hl
  have s16 : S 16 = (6, 10) := h.1.1.2.1
  have i15 : I 15 = sc.2 := h.1.2
  simp (disch := omega) only [w251_1474, w251_1474N, w251_1475, s15, s16, i15, aPush_s, aPush_n, vrf_s, vrf_n, true_and, and_true, false_and, and_false, true_imp_iff, false_imp_iff, not_true_eq_false, not_false_eq_true, eq_self, true_or, or_true, and_self, if_true, if_false, n_lit, n_of, n_an, nI_add, n_cl, n_ixT, le_T, Nat.reduceAdd, Nat.reduceLeDiff, Nat.add_assoc]
  refine RM_mono (p119 h) ?_
  rintro v ⟨S', J, R', z'⟩ ⟨⟨⟨k1, k2, k3⟩, k4⟩, hr⟩
  obtain ⟨n0, v2, τ2, hrun, hI, y, hv, hv2⟩ := id hr
  subst hv
  have t15 : S' 15 = (9, L) := k1.trans hl
  have t81 : S' 81 = (7, 33) := k3
  have j15 : J 15 = sc.2 := k4
  simp (disch := omega) only [w251_1478, w251_1478N, w251_1479, t15, t81, j15, aPush_s, aPush_n, vrf_s, vrf_n, true_and, and_true, false_and, and_false, true_imp_iff, false_imp_iff, not_true_eq_false, not_false_eq_true, eq_self, true_or, or_true, and_self, if_true, if_false, n_lit, n_of, n_an, nI_add, n_cl, n_ixT, le_T, Nat.reduceAdd, Nat.reduceLeDiff, Nat.add_assoc]
  refine RM_mono hr ?_
  rintro v ⟨S3, J3, R3, z3⟩ ⟨hI3, y3, e1, e2⟩
  subst e2
  cases e1
  simp (disch := omega) only [w251_1482, w251_1523, w251_1526, w251_1529, w251_1530, aPush_s, aPush_n, vrf_s, vrf_n, true_and, and_true, false_and, and_false, true_imp_iff, false_imp_iff, not_true_eq_false, not_false_eq_true, eq_self, true_or, or_true, and_self, if_true, if_false, n_lit, n_of, n_an, nI_add, n_cl, n_ixT, le_T, Nat.reduceAdd, Nat.reduceLeDiff, Nat.add_assoc]
  exact hQ S3 J3 R3 z3 hI3
theorem q120 (h : Inv sc n S I R z) (hl : sc.1 = (9, L)) (hL : L ≤ 3072) (hi : i + 6 ≤ L) (hQ : ∀ S' J R' z', Inv sc (n + 1) S' J R' z' → RB (d + 300) 251 18 [.ref 15, .ref 16, .ref 81, .int (nI (i + 6))] [] (S', J, R', z') Q) : RB (d + 300) 251 1487 [.ref 15, .ref 16, .ref 81, .int (nI i)] [] (S, I, R, z) Q := by
  have s15 : S 15 = (9, L) := h.1.1.1.trans hl
  have s16 : S 16 = (6, 10) := h.1.1.2.1
  have i15 : I 15 = sc.2 := h.1.2
  simp (disch := omega) only [w251_1487, w251_1487N, w251_1488, s15, s16, i15, aPush_s, aPush_n, vrf_s, vrf_n, true_and, and_true, false_and, and_false, true_imp_iff, false_imp_iff, not_true_eq_false, not_false_eq_true, eq_self, true_or, or_true, and_self, if_true, if_false, n_lit, n_of, n_an, nI_add, n_cl, n_ixT, le_T, Nat.reduceAdd, Nat.reduceLeDiff, Nat.add_assoc]
  refine RM_mono (p120 h) ?_
  rintro v ⟨S', J, R', z'⟩ ⟨⟨⟨k1, k2, k3⟩, k4⟩, hr⟩
  obtain ⟨n0, v2, τ2, hrun, hI, y, hv, hv2⟩ := id hr
  subst hv
  have t15 : S' 15 = (9, L) := k1.trans hl
  have t81 : S' 81 = (7, 33) := k3
  have j15 : J 15 = sc.2 := k4
  simp (disch := omega) only [w251_1491, w251_1491N, w251_1492, t15, t81, j15, aPush_s, aPush_n, vrf_s, vrf_n, true_and, and_true, false_and, and_false, true_imp_iff, false_imp_iff, not_true_eq_false, not_false_eq_true, eq_self, true_or, or_true, and_self, if_true, if_false, n_lit, n_of, n_an, nI_add, n_cl, n_ixT, le_T, Nat.reduceAdd, Nat.reduceLeDiff, Nat.add_assoc]
  refine RM_mono hr ?_
  rintro v ⟨S3, J3, R3, z3⟩ ⟨hI3, y3, e1, e2⟩
  subst e2
  cases e1
  simp (disch := omega) only [w251_1495, w251_1523, w251_1526, w251_1529, w251_1530, aPush_s, aPush_n, vrf_s, vrf_n, true_and, and_true, false_and, and_false, true_imp_iff, false_imp_iff, not_true_eq_false, not_false_eq_true, eq_self, true_or, or_true, and_self, if_true, if_false, n_lit, n_of, n_an, nI_add, n_cl, n_ixT, le_T, Nat.reduceAdd, Nat.reduceLeDiff, Nat.add_assoc]
  exact hQ S3 J3 R3 z3 hI3
theorem q121 (h : Inv sc n S I R z) (hl : sc.1 = (9, L)) (hL : L ≤ 3072) (hi : i + 6 ≤ L) (hQ : ∀ S' J R' z', Inv sc (n + 1) S' J R' z' → RB (d + 300) 251 18 [.ref 15, .ref 16, .ref 81, .int (nI (i + 6))] [] (S', J, R', z') Q) : RB (d + 300) 251 1500 [.ref 15, .ref 16, .ref 81, .int (nI i)] [] (S, I, R, z) Q := by
  have s15 : S 15 = (9, L) := h.1.1.1.trans hl
  have s16 : S 16 = (6, 10) := h.1.1.2.1
  have i15 : I 15 = sc.2 := h.1.2
  simp (disch := omega) only [w251_1500, w251_1500N, w251_1501, w251_1501N, w251_1502, w251_1503, w251_1504, w251_1505, w251_1506, s15, s16, i15, aPush_s, aPush_n, vrf_s, vrf_n, true_and, and_true, false_and, and_false, true_imp_iff, false_imp_iff, not_true_eq_false, not_false_eq_true, eq_self, true_or, or_true, and_self, if_true, if_false, n_lit, n_of, n_an, nI_add, n_cl, n_ixT, le_T, Nat.reduceAdd, Nat.reduceLeDiff, Nat.add_assoc]
  refine RM_mono (p121 h) ?_
  rintro v ⟨S', J, R', z'⟩ ⟨⟨⟨k1, k2, k3⟩, k4⟩, hr⟩
  obtain ⟨n0, v2, τ2, hrun, hI, y, hv, hv2⟩ := id hr
  subst hv
  have t15 : S' 15 = (9, L) := k1.trans hl
  have t81 : S' 81 = (7, 33) := k3
  have j15 : J 15 = sc.2 := k4
  simp (disch := omega) only [w251_1509, w251_1509N, w251_1510, w251_1510N, w251_1511, w251_1512, w251_1513, w251_1514, w251_1515, t15, t81, j15, aPush_s, aPush_n, vrf_s, vrf_n, true_and, and_true, false_and, and_false, true_imp_iff, false_imp_iff, not_true_eq_false, not_false_eq_true, eq_self, true_or, or_true, and_self, if_true, if_false, n_lit, n_of, n_an, nI_add, n_cl, n_ixT, le_T, Nat.reduceAdd, Nat.reduceLeDiff, Nat.add_assoc]
  refine RM_mono hr ?_
  rintro v ⟨S3, J3, R3, z3⟩ ⟨hI3, y3, e1, e2⟩
  subst e2
  cases e1
  simp (disch := omega) only [w251_1518, w251_1523, w251_1526, w251_1529, w251_1530, aPush_s, aPush_n, vrf_s, vrf_n, true_and, and_true, false_and, and_false, true_imp_iff, false_imp_iff, not_true_eq_false, not_false_eq_true, eq_self, true_or, or_true, and_self, if_true, if_false, n_lit, n_of, n_an, nI_add, n_cl, n_ixT, le_T, Nat.reduceAdd, Nat.reduceLeDiff, Nat.add_assoc]
  exact hQ S3 J3 R3 z3 hI3
def tsT (x : Int32) (df : Nat) : List (Int32 × Nat) → Nat
  | [] => df
  | e :: r => if x = e.1 then e.2 else tsT x df r
theorem aTsR_T {m pc : Nat} {x : Int32} {df : Nat} {ls st : List Value} {σ : HS} : ∀ l, aTsR d m pc x df ls st σ Q l = RB d m (tsT x df l) ls st σ Q
  | [] => rfl
  | e :: r => by
    show ((x = e.1 → RB d m e.2 ls st σ Q) ∧ (¬ x = e.1 → aTsR d m pc x df ls st σ Q r)) = RB d m (if x = e.1 then e.2 else tsT x df r) ls st σ Q
    rw [aTsR_T r]
    by_cases c : x = e.1
    · simp only [c, true_imp_iff, not_true_eq_false, false_imp_iff, and_true, if_true]
    · simp only [c, false_imp_iff, not_false_eq_true, true_imp_iff, true_and, if_false]
def lawT : List (Int32 × Nat) := [(0, 228), (1, 261), (2, 294), (3, 327), (4, 360), (5, 393), (6, 426), (7, 459), (8, 492), (9, 525), (10, 548), (11, 571), (12, 594), (13, 617), (14, 640), (15, 653), (16, 676), (17, 699), (18, 732), (19, 765), (20, 788), (21, 811), (22, 834), (23, 847), (24, 890), (25, 923), (26, 936), (27, 979), (28, 1002), (29, 1015), (30, 1048), (31, 1071), (32, 1114), (33, 1157), (34, 1180), (35, 1213), (36, 1276), (37, 1319), (38, 1352), (39, 1385), (40, 1418), (41, 1441), (42, 1474), (43, 1487), (44, 1500)]
def lawP (j : Nat) : Nat := ([228, 261, 294, 327, 360, 393, 426, 459, 492, 525, 548, 571, 594, 617, 640, 653, 676, 699, 732, 765, 788, 811, 834, 847, 890, 923, 936, 979, 1002, 1015, 1048, 1071, 1114, 1157, 1180, 1213, 1276, 1319, 1352, 1385, 1418, 1441, 1474, 1487, 1500] : List Nat).getD j 1523
theorem lawT_eq : ∀ j, j < 64 → tsT (nI j) 1523 lawT = lawP j := by decide +kernel
theorem law_step (h : Inv sc n S I R z) (hl : sc.1 = (9, L)) (hL : L ≤ 3072) (hi : i + 6 ≤ L) (hQ : ∀ n' S' J R' z', n' ≤ n + 1 → Inv sc n' S' J R' z' → RB (d + 300) 251 18 [.ref 15, .ref 16, .ref 81, .int (nI (i + 6))] [] (S', J, R', z') Q) : RB (d + 300) 251 18 [.ref 15, .ref 16, .ref 81, .int (nI i)] [] (S, I, R, z) Q := by
  have s15 : S 15 = (9, L) := h.1.1.1.trans hl
  have i15 : I 15 = sc.2 := h.1.2
  obtain ⟨j, hj, ej⟩ := pk_andE (sc.2 i) (m := nI 63) 6 (by decide)
  have hsub : nI L - nI 6 = nI (L - 6) := n_sub (by omega)
  rw [w251_18]
  simp (disch := omega) only [w251_19, w251_19N, w251_20, w251_21, w251_23, w251_24, w251_27, w251_27N, w251_28, w251_29, w251_30, w251_32, s15, i15, aPush_s, aPush_n, vrf_s, vrf_n, true_and, and_true, false_and, and_false, true_imp_iff, false_imp_iff, not_true_eq_false, not_false_eq_true, eq_self, true_or, or_true, and_self, if_true, if_false, n_lit, n_of, n_an, nI_add, n_cl, n_ixT, le_T, Nat.reduceAdd, Nat.reduceLeDiff, Nat.add_assoc, hsub, n_ltF]
  rw [ej]
  refine Eq.mpr ((w251_33).trans ((aTsR_T lawT).trans (congrArg (fun q => RB (d + 300) 251 q [.ref 15, .ref 16, .ref 81, .int (nI i)] [] (S, I, R, z) Q) (lawT_eq j (by omega))))) ?_
  have jc : j = 0 ∨ j = 1 ∨ j = 2 ∨ j = 3 ∨ j = 4 ∨ j = 5 ∨ j = 6 ∨ j = 7 ∨ j = 8 ∨ j = 9 ∨ j = 10 ∨ j = 11 ∨ j = 12 ∨ j = 13 ∨ j = 14 ∨ j = 15 ∨ j = 16 ∨ j = 17 ∨ j = 18 ∨ j = 19 ∨ j = 20 ∨ j = 21 ∨ j = 22 ∨ j = 23 ∨ j = 24 ∨ j = 25 ∨ j = 26 ∨ j = 27 ∨ j = 28 ∨ j = 29 ∨ j = 30 ∨ j = 31 ∨ j = 32 ∨ j = 33 ∨ j = 34 ∨ j = 35 ∨ j = 36 ∨ j = 37 ∨ j = 38 ∨ j = 39 ∨ j = 40 ∨ j = 41 ∨ j = 42 ∨ j = 43 ∨ j = 44 ∨ 45 ≤ j := by omega
  rcases jc with rfl | rfl | rfl | rfl | rfl | rfl | rfl | rfl | rfl | rfl | rfl | rfl | rfl | rfl | rfl | rfl | rfl | rfl | rfl | rfl | rfl | rfl | rfl | rfl | rfl | rfl | rfl | rfl | rfl | rfl | rfl | rfl | rfl | rfl | rfl | rfl | rfl | rfl | rfl | rfl | rfl | rfl | rfl | rfl | rfl | hge
  · exact q77 h hl hL hi (fun S' J R' z' hI => hQ (n + 1) S' J R' z' (Nat.le_refl _) hI)
  · exact q78 h hl hL hi (fun S' J R' z' hI => hQ (n + 1) S' J R' z' (Nat.le_refl _) hI)
  · exact q79 h hl hL hi (fun S' J R' z' hI => hQ (n + 1) S' J R' z' (Nat.le_refl _) hI)
  · exact q80 h hl hL hi (fun S' J R' z' hI => hQ (n + 1) S' J R' z' (Nat.le_refl _) hI)
  · exact q81 h hl hL hi (fun S' J R' z' hI => hQ (n + 1) S' J R' z' (Nat.le_refl _) hI)
  · exact q82 h hl hL hi (fun S' J R' z' hI => hQ (n + 1) S' J R' z' (Nat.le_refl _) hI)
  · exact q83 h hl hL hi (fun S' J R' z' hI => hQ (n + 1) S' J R' z' (Nat.le_refl _) hI)
  · exact q84 h hl hL hi (fun S' J R' z' hI => hQ (n + 1) S' J R' z' (Nat.le_refl _) hI)
  · exact q85 h hl hL hi (fun S' J R' z' hI => hQ (n + 1) S' J R' z' (Nat.le_refl _) hI)
  · exact q86 h hl hL hi (fun S' J R' z' hI => hQ (n + 1) S' J R' z' (Nat.le_refl _) hI)
  · exact q87 h hl hL hi (fun S' J R' z' hI => hQ (n + 1) S' J R' z' (Nat.le_refl _) hI)
  · exact q88 h hl hL hi (fun S' J R' z' hI => hQ (n + 1) S' J R' z' (Nat.le_refl _) hI)
  · exact q89 h hl hL hi (fun S' J R' z' hI => hQ (n + 1) S' J R' z' (Nat.le_refl _) hI)
  · exact q90 h hl hL hi (fun S' J R' z' hI => hQ (n + 1) S' J R' z' (Nat.le_refl _) hI)
  · exact q91 h hl hL hi (fun S' J R' z' hI => hQ (n + 1) S' J R' z' (Nat.le_refl _) hI)
  · exact q92 h hl hL hi (fun S' J R' z' hI => hQ (n + 1) S' J R' z' (Nat.le_refl _) hI)
  · exact q93 h hl hL hi (fun S' J R' z' hI => hQ (n + 1) S' J R' z' (Nat.le_refl _) hI)
  · exact q94 h hl hL hi (fun S' J R' z' hI => hQ (n + 1) S' J R' z' (Nat.le_refl _) hI)
  · exact q95 h hl hL hi (fun S' J R' z' hI => hQ (n + 1) S' J R' z' (Nat.le_refl _) hI)
  · exact q96 h hl hL hi (fun S' J R' z' hI => hQ (n + 1) S' J R' z' (Nat.le_refl _) hI)
  · exact q97 h hl hL hi (fun S' J R' z' hI => hQ (n + 1) S' J R' z' (Nat.le_refl _) hI)
  · exact q98 h hl hL hi (fun S' J R' z' hI => hQ (n + 1) S' J R' z' (Nat.le_refl _) hI)
  · exact q99 h hl hL hi (fun S' J R' z' hI => hQ (n + 1) S' J R' z' (Nat.le_refl _) hI)
  · exact q100 h hl hL hi (fun S' J R' z' hI => hQ (n + 1) S' J R' z' (Nat.le_refl _) hI)
  · exact q101 h hl hL hi (fun S' J R' z' hI => hQ (n + 1) S' J R' z' (Nat.le_refl _) hI)
  · exact q102 h hl hL hi (fun S' J R' z' hI => hQ (n + 1) S' J R' z' (Nat.le_refl _) hI)
  · exact q103 h hl hL hi (fun S' J R' z' hI => hQ (n + 1) S' J R' z' (Nat.le_refl _) hI)
  · exact q104 h hl hL hi (fun S' J R' z' hI => hQ (n + 1) S' J R' z' (Nat.le_refl _) hI)
  · exact q105 h hl hL hi (fun S' J R' z' hI => hQ (n + 1) S' J R' z' (Nat.le_refl _) hI)
  · exact q106 h hl hL hi (fun S' J R' z' hI => hQ (n + 1) S' J R' z' (Nat.le_refl _) hI)
  · exact q107 h hl hL hi (fun S' J R' z' hI => hQ (n + 1) S' J R' z' (Nat.le_refl _) hI)
  · exact q108 h hl hL hi (fun S' J R' z' hI => hQ (n + 1) S' J R' z' (Nat.le_refl _) hI)
  · exact q109 h hl hL hi (fun S' J R' z' hI => hQ (n + 1) S' J R' z' (Nat.le_refl _) hI)
  · exact q110 h hl hL hi (fun S' J R' z' hI => hQ (n + 1) S' J R' z' (Nat.le_refl _) hI)
  · exact q111 h hl hL hi (fun S' J R' z' hI => hQ (n + 1) S' J R' z' (Nat.le_refl _) hI)
  · exact q112 h hl hL hi (fun S' J R' z' hI => hQ (n + 1) S' J R' z' (Nat.le_refl _) hI)
  · exact q113 h hl hL hi (fun S' J R' z' hI => hQ (n + 1) S' J R' z' (Nat.le_refl _) hI)
  · exact q114 h hl hL hi (fun S' J R' z' hI => hQ (n + 1) S' J R' z' (Nat.le_refl _) hI)
  · exact q115 h hl hL hi (fun S' J R' z' hI => hQ (n + 1) S' J R' z' (Nat.le_refl _) hI)
  · exact q116 h hl hL hi (fun S' J R' z' hI => hQ (n + 1) S' J R' z' (Nat.le_refl _) hI)
  · exact q117 h hl hL hi (fun S' J R' z' hI => hQ (n + 1) S' J R' z' (Nat.le_refl _) hI)
  · exact q118 h hl hL hi (fun S' J R' z' hI => hQ (n + 1) S' J R' z' (Nat.le_refl _) hI)
  · exact q119 h hl hL hi (fun S' J R' z' hI => hQ (n + 1) S' J R' z' (Nat.le_refl _) hI)
  · exact q120 h hl hL hi (fun S' J R' z' hI => hQ (n + 1) S' J R' z' (Nat.le_refl _) hI)
  · exact q121 h hl hL hi (fun S' J R' z' hI => hQ (n + 1) S' J R' z' (Nat.le_refl _) hI)
  · have e : lawP j = 1523 := by
      have key : ∀ j, j < 64 → 45 ≤ j → lawP j = 1523 := by decide +kernel
      exact key j (by omega) hge
    show RB (d + 300) 251 (lawP j) _ _ _ Q
    rw [e]
    simp (disch := omega) only [w251_1523, w251_1526, aPush_s, aPush_n, vrf_s, vrf_n, true_and, and_true, false_and, and_false, true_imp_iff, false_imp_iff, not_true_eq_false, not_false_eq_true, eq_self, true_or, or_true, and_self, if_true, if_false, n_lit, n_of, n_an, nI_add, n_cl, n_ixT, le_T, Nat.reduceAdd, Nat.reduceLeDiff, Nat.add_assoc]
    exact hQ n S I R z (by omega) h
theorem law_loop (hl : sc.1 = (9, L)) (hL : L ≤ 3072) (hQ : ∀ n S I R z, n ≤ 512 → Inv sc n S I R z → Q (some (.int (nI 1))) (S, I, R, z)) : ∀ (f n i : Nat) (S : Nat → Nat × Nat) (I : Nat → Nat → Int32) (R : Nat → Nat → Option Nat) (z : Nat × Nat), n + f ≤ 512 → L < i + 6 * (f + 1) → i ≤ L + 6 → Inv sc n S I R z → RB (d + 300) 251 18 [.ref 15, .ref 16, .ref 81, .int (nI i)] [] (S, I, R, z) Q := by
  have fin : ∀ (n i : Nat) (S : Nat → Nat × Nat) (I : Nat → Nat → Int32) (R : Nat → Nat → Option Nat) (z : Nat × Nat), n ≤ 512 → L < i + 6 → i ≤ L + 6 → Inv sc n S I R z → RB (d + 300) 251 18 [.ref 15, .ref 16, .ref 81, .int (nI i)] [] (S, I, R, z) Q := by
    intro n i S I R z hn hi hi2 h
    have s15 : S 15 = (9, L) := h.1.1.1.trans hl
    have hc : nI L - nI 6 < nI i := by
      by_cases e : 6 ≤ L
      · rw [n_sub e]
        exact nI_lt (by omega) (by omega)
      · have key : ∀ q, q < 6 → nI q - nI 6 < 0 := by decide
        exact Int32.lt_of_lt_of_le (key L (by omega)) (by rw [← nI_0]; exact nI_le (Nat.zero_le _) (by omega))
    rw [w251_18]
    simp (disch := omega) only [w251_19, w251_19N, w251_20, w251_21, w251_23, w251_24, w251_1529, w251_1530, s15, aPush_s, aPush_n, vrf_s, vrf_n, true_and, and_true, false_and, and_false, true_imp_iff, false_imp_iff, not_true_eq_false, not_false_eq_true, eq_self, true_or, or_true, and_self, if_true, if_false, n_lit, n_of, n_an, nI_add, n_cl, n_ixT, le_T, Nat.reduceAdd, Nat.reduceLeDiff, Nat.add_assoc, hc, nz1]
    exact hQ n S I R z hn h
  intro f
  induction f with
  | zero =>
    intro n i S I R z hn hi hi2 h
    exact fin n i S I R z (by omega) (by omega) hi2 h
  | succ f ih =>
    intro n i S I R z hn hi hi2 h
    by_cases e : i + 6 ≤ L
    · exact law_step h hl hL e (fun n' S' J R' z' hn' hI => ih n' (i + 6) S' J R' z' (by omega) (by omega) (by omega) hI)
    · exact fin n i S I R z (by omega) (by omega) hi2 h
end
