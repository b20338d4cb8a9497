/-! the law: each call, the loop (printed by a program of mine, gen_law.py) -/
/-- a call of the law, from a place in its code back to the loop's head -/
def LwS (pc : Nat) : Prop := ∀ (R m : zM) (S0 K L i : Int), Rel R m S0 K → 0 ≤ K → K < 512 → R 0 2 = L → 0 ≤ i → i + 5 ≤ L → L ≤ 2560 → (∀ k, 2 ≤ k → zi32 (R 0 k)) → ∃ R' m', ev 0 pc [(4, 0), (2, 1), (2, 100), (0, i)] [] R m = ev 0 18 [(4, 0), (2, 1), (2, 100), (0, i + 5)] [] R' m' ∧ Rel R' m' S0 (K + 1) ∧ ∀ k, k ≠ 0 → k ≠ 1 → R' 0 k = R 0 k
theorem lw_0 : LwS 196 := by
  intro R m S0 K L i hR hK0 hK hL hi0 hi hL2 hx
  obtain ⟨v, R1, m1, m2, e1, e2, e3, e4⟩ := top_board (R 0 (3 + (i + 1))) (R 0 (3 + (i + 2))) R m S0 K hR hK0 hK
  have z1 : zw (i + 1) = i + 1 := zw_i (by omega) (by omega)
  have f1 : R1 0 (3 + (i + 1)) = R 0 (3 + (i + 1)) := e4 _ (by omega) (by omega)
  have c1 : 0 ≤ i + 1 ∧ i + 1 < L := by omega
  have z2 : zw (i + 2) = i + 2 := zw_i (by omega) (by omega)
  have f2 : R1 0 (3 + (i + 2)) = R 0 (3 + (i + 2)) := e4 _ (by omega) (by omega)
  have c2 : 0 ≤ i + 2 ∧ i + 2 < L := by omega
  have z9 : zw (i + 5) = i + 5 := zw_i (by omega) (by omega)
  have f0 : R1 0 2 = L := by rw [e4 2 (by decide) (by decide)]; exact hL
  refine ⟨R1, m2, ?_, e3, e4⟩
  simp only [s0_196, s0_197, s0_198, s0_199, s0_200, s0_201, s0_202, s0_203, s0_204, s0_205, s0_206, s0_207, s0_210, s0_211, s0_212, s0_213, s0_214, s0_215, s0_216, s0_217, s0_218, s0_219, s0_220, s0_221, s0_224, s0_1397, s0_1400, zps_0, zps_1, zps_2, zps_3, zps_9, Option.bind_some, Option.bind_none, Int.reduceEq, Int.reduceNe, Int.reduceLT, Int.reduceLE, Int.reduceNeg, Int.reduceAdd, Int.reduceSub, Int.reduceMul, reduceIte, if_true, if_false, true_and, and_true, false_and, and_false, or_true, true_or, or_false, false_or, not_true_eq_false, not_false_eq_true, ite_not, z_b0, z_b1, z_b01, kGK0, kMK0, hL, f0, z1, f1, c1, z2, f2, c2, z9, e1, e2, and_self, if_true, if_false]
theorem lw_1 : LwS 229 := by
  intro R m S0 K L i hR hK0 hK hL hi0 hi hL2 hx
  obtain ⟨v, R1, m1, m2, e1, e2, e3, e4⟩ := top_ground (R 0 (3 + (i + 1))) (R 0 (3 + (i + 2))) R m S0 K hR hK0 hK
  have z1 : zw (i + 1) = i + 1 := zw_i (by omega) (by omega)
  have f1 : R1 0 (3 + (i + 1)) = R 0 (3 + (i + 1)) := e4 _ (by omega) (by omega)
  have c1 : 0 ≤ i + 1 ∧ i + 1 < L := by omega
  have z2 : zw (i + 2) = i + 2 := zw_i (by omega) (by omega)
  have f2 : R1 0 (3 + (i + 2)) = R 0 (3 + (i + 2)) := e4 _ (by omega) (by omega)
  have c2 : 0 ≤ i + 2 ∧ i + 2 < L := by omega
  have z9 : zw (i + 5) = i + 5 := zw_i (by omega) (by omega)
  have f0 : R1 0 2 = L := by rw [e4 2 (by decide) (by decide)]; exact hL
  refine ⟨R1, m2, ?_, e3, e4⟩
  simp only [s0_229, s0_230, s0_231, s0_232, s0_233, s0_234, s0_235, s0_236, s0_237, s0_238, s0_239, s0_240, s0_243, s0_244, s0_245, s0_246, s0_247, s0_248, s0_249, s0_250, s0_251, s0_252, s0_253, s0_254, s0_257, s0_1397, s0_1400, zps_0, zps_1, zps_2, zps_3, zps_9, Option.bind_some, Option.bind_none, Int.reduceEq, Int.reduceNe, Int.reduceLT, Int.reduceLE, Int.reduceNeg, Int.reduceAdd, Int.reduceSub, Int.reduceMul, reduceIte, if_true, if_false, true_and, and_true, false_and, and_false, or_true, true_or, or_false, false_or, not_true_eq_false, not_false_eq_true, ite_not, z_b0, z_b1, z_b01, kGK0, kMK0, hL, f0, z1, f1, c1, z2, f2, c2, z9, e1, e2, and_self, if_true, if_false]
theorem lw_2 : LwS 262 := by
  intro R m S0 K L i hR hK0 hK hL hi0 hi hL2 hx
  obtain ⟨v, R1, m1, m2, e1, e2, e3, e4⟩ := top_height (R 0 (3 + (i + 1))) (R 0 (3 + (i + 2))) R m S0 K hR hK0 hK
  have z1 : zw (i + 1) = i + 1 := zw_i (by omega) (by omega)
  have f1 : R1 0 (3 + (i + 1)) = R 0 (3 + (i + 1)) := e4 _ (by omega) (by omega)
  have c1 : 0 ≤ i + 1 ∧ i + 1 < L := by omega
  have z2 : zw (i + 2) = i + 2 := zw_i (by omega) (by omega)
  have f2 : R1 0 (3 + (i + 2)) = R 0 (3 + (i + 2)) := e4 _ (by omega) (by omega)
  have c2 : 0 ≤ i + 2 ∧ i + 2 < L := by omega
  have z9 : zw (i + 5) = i + 5 := zw_i (by omega) (by omega)
  have f0 : R1 0 2 = L := by rw [e4 2 (by decide) (by decide)]; exact hL
  refine ⟨R1, m2, ?_, e3, e4⟩
  simp only [s0_262, s0_263, s0_264, s0_265, s0_266, s0_267, s0_268, s0_269, s0_270, s0_271, s0_272, s0_273, s0_276, s0_277, s0_278, s0_279, s0_280, s0_281, s0_282, s0_283, s0_284, s0_285, s0_286, s0_287, s0_290, s0_1397, s0_1400, zps_0, zps_1, zps_2, zps_3, zps_9, Option.bind_some, Option.bind_none, Int.reduceEq, Int.reduceNe, Int.reduceLT, Int.reduceLE, Int.reduceNeg, Int.reduceAdd, Int.reduceSub, Int.reduceMul, reduceIte, if_true, if_false, true_and, and_true, false_and, and_false, or_true, true_or, or_false, false_or, not_true_eq_false, not_false_eq_true, ite_not, z_b0, z_b1, z_b01, kGK0, kMK0, hL, f0, z1, f1, c1, z2, f2, c2, z9, e1, e2, and_self, if_true, if_false]
theorem lw_3 : LwS 295 := by
  intro R m S0 K L i hR hK0 hK hL hi0 hi hL2 hx
  obtain ⟨v, R1, m1, m2, e1, e2, e3, e4⟩ := top_use (R 0 (3 + (i + 1))) (R 0 (3 + (i + 2))) R m S0 K hR hK0 hK
  have z1 : zw (i + 1) = i + 1 := zw_i (by omega) (by omega)
  have f1 : R1 0 (3 + (i + 1)) = R 0 (3 + (i + 1)) := e4 _ (by omega) (by omega)
  have c1 : 0 ≤ i + 1 ∧ i + 1 < L := by omega
  have z2 : zw (i + 2) = i + 2 := zw_i (by omega) (by omega)
  have f2 : R1 0 (3 + (i + 2)) = R 0 (3 + (i + 2)) := e4 _ (by omega) (by omega)
  have c2 : 0 ≤ i + 2 ∧ i + 2 < L := by omega
  have z9 : zw (i + 5) = i + 5 := zw_i (by omega) (by omega)
  have f0 : R1 0 2 = L := by rw [e4 2 (by decide) (by decide)]; exact hL
  refine ⟨R1, m2, ?_, e3, e4⟩
  simp only [s0_295, s0_296, s0_297, s0_298, s0_299, s0_300, s0_301, s0_302, s0_303, s0_304, s0_305, s0_306, s0_309, s0_310, s0_311, s0_312, s0_313, s0_314, s0_315, s0_316, s0_317, s0_318, s0_319, s0_320, s0_323, s0_1397, s0_1400, zps_0, zps_1, zps_2, zps_3, zps_9, Option.bind_some, Option.bind_none, Int.reduceEq, Int.reduceNe, Int.reduceLT, Int.reduceLE, Int.reduceNeg, Int.reduceAdd, Int.reduceSub, Int.reduceMul, reduceIte, if_true, if_false, true_and, and_true, false_and, and_false, or_true, true_or, or_false, false_or, not_true_eq_false, not_false_eq_true, ite_not, z_b0, z_b1, z_b01, kGK0, kMK0, hL, f0, z1, f1, c1, z2, f2, c2, z9, e1, e2, and_self, if_true, if_false]
theorem lw_4 : LwS 328 := by
  intro R m S0 K L i hR hK0 hK hL hi0 hi hL2 hx
  obtain ⟨v, R1, m1, m2, e1, e2, e3, e4⟩ := top_plot (R 0 (3 + (i + 1))) (R 0 (3 + (i + 2))) R m S0 K hR hK0 hK
  have z1 : zw (i + 1) = i + 1 := zw_i (by omega) (by omega)
  have f1 : R1 0 (3 + (i + 1)) = R 0 (3 + (i + 1)) := e4 _ (by omega) (by omega)
  have c1 : 0 ≤ i + 1 ∧ i + 1 < L := by omega
  have z2 : zw (i + 2) = i + 2 := zw_i (by omega) (by omega)
  have f2 : R1 0 (3 + (i + 2)) = R 0 (3 + (i + 2)) := e4 _ (by omega) (by omega)
  have c2 : 0 ≤ i + 2 ∧ i + 2 < L := by omega
  have z9 : zw (i + 5) = i + 5 := zw_i (by omega) (by omega)
  have f0 : R1 0 2 = L := by rw [e4 2 (by decide) (by decide)]; exact hL
  refine ⟨R1, m2, ?_, e3, e4⟩
  simp only [s0_328, s0_329, s0_330, s0_331, s0_332, s0_333, s0_334, s0_335, s0_336, s0_337, s0_338, s0_339, s0_342, s0_343, s0_344, s0_345, s0_346, s0_347, s0_348, s0_349, s0_350, s0_351, s0_352, s0_353, s0_356, s0_1397, s0_1400, zps_0, zps_1, zps_2, zps_3, zps_9, Option.bind_some, Option.bind_none, Int.reduceEq, Int.reduceNe, Int.reduceLT, Int.reduceLE, Int.reduceNeg, Int.reduceAdd, Int.reduceSub, Int.reduceMul, reduceIte, if_true, if_false, true_and, and_true, false_and, and_false, or_true, true_or, or_false, false_or, not_true_eq_false, not_false_eq_true, ite_not, z_b0, z_b1, z_b01, kGK0, kMK0, hL, f0, z1, f1, c1, z2, f2, c2, z9, e1, e2, and_self, if_true, if_false]
theorem lw_5 : LwS 361 := by
  intro R m S0 K L i hR hK0 hK hL hi0 hi hL2 hx
  obtain ⟨v, R1, m1, m2, e1, e2, e3, e4⟩ := top_feed (z64 (fun x1 x2 => x1 ||| x2) (z6s (fun x y => x <<< (y.toInt64 &&& 63)) (R 0 (3 + (i + 1))) 32) (z64 (fun x1 x2 => x1 &&& x2) (R 0 (3 + (i + 2))) 4294967295)) R m S0 K hR hK0 hK
  have z1 : zw (i + 1) = i + 1 := zw_i (by omega) (by omega)
  have f1 : R1 0 (3 + (i + 1)) = R 0 (3 + (i + 1)) := e4 _ (by omega) (by omega)
  have c1 : 0 ≤ i + 1 ∧ i + 1 < L := by omega
  have z2 : zw (i + 2) = i + 2 := zw_i (by omega) (by omega)
  have f2 : R1 0 (3 + (i + 2)) = R 0 (3 + (i + 2)) := e4 _ (by omega) (by omega)
  have c2 : 0 ≤ i + 2 ∧ i + 2 < L := by omega
  have z9 : zw (i + 5) = i + 5 := zw_i (by omega) (by omega)
  have f0 : R1 0 2 = L := by rw [e4 2 (by decide) (by decide)]; exact hL
  refine ⟨R1, m2, ?_, e3, e4⟩
  simp only [s0_361, s0_362, s0_363, s0_364, s0_365, s0_366, s0_367, s0_368, s0_370, s0_371, s0_372, s0_373, s0_374, s0_375, s0_376, s0_377, s0_380, s0_381, s0_382, s0_385, s0_386, s0_387, s0_388, s0_389, s0_390, s0_391, s0_392, s0_394, s0_395, s0_396, s0_397, s0_398, s0_399, s0_400, s0_401, s0_404, s0_405, s0_406, s0_409, s0_1397, s0_1400, zps_0, zps_1, zps_2, zps_3, zps_9, Option.bind_some, Option.bind_none, Int.reduceEq, Int.reduceNe, Int.reduceLT, Int.reduceLE, Int.reduceNeg, Int.reduceAdd, Int.reduceSub, Int.reduceMul, reduceIte, if_true, if_false, true_and, and_true, false_and, and_false, or_true, true_or, or_false, false_or, not_true_eq_false, not_false_eq_true, ite_not, z_b0, z_b1, z_b01, kGK0, kMK0, hL, f0, z1, f1, c1, z2, f2, c2, z9, e1, e2, and_self, if_true, if_false]
theorem lw_6 : LwS 414 := by
  intro R m S0 K L i hR hK0 hK hL hi0 hi hL2 hx
  obtain ⟨v, R1, m1, m2, e1, e2, e3, e4⟩ := top_end (R 0 (3 + (i + 1))) R m S0 K hR hK0 hK
  have z1 : zw (i + 1) = i + 1 := zw_i (by omega) (by omega)
  have f1 : R1 0 (3 + (i + 1)) = R 0 (3 + (i + 1)) := e4 _ (by omega) (by omega)
  have c1 : 0 ≤ i + 1 ∧ i + 1 < L := by omega
  have z9 : zw (i + 5) = i + 5 := zw_i (by omega) (by omega)
  have f0 : R1 0 2 = L := by rw [e4 2 (by decide) (by decide)]; exact hL
  refine ⟨R1, m2, ?_, e3, e4⟩
  simp only [s0_414, s0_415, s0_416, s0_417, s0_418, s0_419, s0_420, s0_423, s0_424, s0_425, s0_426, s0_427, s0_428, s0_429, s0_432, s0_1397, s0_1400, zps_0, zps_1, zps_2, zps_3, zps_9, Option.bind_some, Option.bind_none, Int.reduceEq, Int.reduceNe, Int.reduceLT, Int.reduceLE, Int.reduceNeg, Int.reduceAdd, Int.reduceSub, Int.reduceMul, reduceIte, if_true, if_false, true_and, and_true, false_and, and_false, or_true, true_or, or_false, false_or, not_true_eq_false, not_false_eq_true, ite_not, z_b0, z_b1, z_b01, kGK0, kMK0, hL, f0, z1, f1, c1, z9, e1, e2, and_self, if_true, if_false]
theorem lw_7 : LwS 437 := by
  intro R m S0 K L i hR hK0 hK hL hi0 hi hL2 hx
  obtain ⟨v, R1, m1, m2, e1, e2, e3, e4⟩ := top_laws R m S0 K hR hK0 hK
  have z9 : zw (i + 5) = i + 5 := zw_i (by omega) (by omega)
  have f0 : R1 0 2 = L := by rw [e4 2 (by decide) (by decide)]; exact hL
  refine ⟨R1, m2, ?_, e3, e4⟩
  simp only [s0_437, s0_438, s0_441, s0_442, s0_445, s0_1397, s0_1400, zps_0, zps_1, zps_2, zps_3, zps_9, Option.bind_some, Option.bind_none, Int.reduceEq, Int.reduceNe, Int.reduceLT, Int.reduceLE, Int.reduceNeg, Int.reduceAdd, Int.reduceSub, Int.reduceMul, reduceIte, if_true, if_false, true_and, and_true, false_and, and_false, or_true, true_or, or_false, false_or, not_true_eq_false, not_false_eq_true, ite_not, z_b0, z_b1, z_b01, kGK0, kMK0, hL, f0, z9, e1, e2, and_self, if_true, if_false]
theorem lw_8 : LwS 450 := by
  intro R m S0 K L i hR hK0 hK hL hi0 hi hL2 hx
  obtain ⟨v, R1, m1, m2, e1, e2, e3, e4⟩ := top_fault R m S0 K hR hK0 hK
  have z9 : zw (i + 5) = i + 5 := zw_i (by omega) (by omega)
  have f0 : R1 0 2 = L := by rw [e4 2 (by decide) (by decide)]; exact hL
  refine ⟨R1, m2, ?_, e3, e4⟩
  simp only [s0_450, s0_451, s0_454, s0_455, s0_458, s0_1397, s0_1400, zps_0, zps_1, zps_2, zps_3, zps_9, Option.bind_some, Option.bind_none, Int.reduceEq, Int.reduceNe, Int.reduceLT, Int.reduceLE, Int.reduceNeg, Int.reduceAdd, Int.reduceSub, Int.reduceMul, reduceIte, if_true, if_false, true_and, and_true, false_and, and_false, or_true, true_or, or_false, false_or, not_true_eq_false, not_false_eq_true, ite_not, z_b0, z_b1, z_b01, kGK0, kMK0, hL, f0, z9, e1, e2, and_self, if_true, if_false]
theorem lw_9 : LwS 463 := by
  intro R m S0 K L i hR hK0 hK hL hi0 hi hL2 hx
  obtain ⟨v, R1, m1, m2, e1, e2, e3, e4⟩ := top_law (R 0 (3 + (i + 1))) (R 0 (3 + (i + 2))) R m S0 K hR hK0 hK
  have z1 : zw (i + 1) = i + 1 := zw_i (by omega) (by omega)
  have f1 : R1 0 (3 + (i + 1)) = R 0 (3 + (i + 1)) := e4 _ (by omega) (by omega)
  have c1 : 0 ≤ i + 1 ∧ i + 1 < L := by omega
  have z2 : zw (i + 2) = i + 2 := zw_i (by omega) (by omega)
  have f2 : R1 0 (3 + (i + 2)) = R 0 (3 + (i + 2)) := e4 _ (by omega) (by omega)
  have c2 : 0 ≤ i + 2 ∧ i + 2 < L := by omega
  have z9 : zw (i + 5) = i + 5 := zw_i (by omega) (by omega)
  have f0 : R1 0 2 = L := by rw [e4 2 (by decide) (by decide)]; exact hL
  refine ⟨R1, m2, ?_, e3, e4⟩
  simp only [s0_463, s0_464, s0_465, s0_466, s0_467, s0_468, s0_469, s0_470, s0_471, s0_472, s0_473, s0_474, s0_477, s0_478, s0_479, s0_480, s0_481, s0_482, s0_483, s0_484, s0_485, s0_486, s0_487, s0_488, s0_491, s0_1397, s0_1400, zps_0, zps_1, zps_2, zps_3, zps_9, Option.bind_some, Option.bind_none, Int.reduceEq, Int.reduceNe, Int.reduceLT, Int.reduceLE, Int.reduceNeg, Int.reduceAdd, Int.reduceSub, Int.reduceMul, reduceIte, if_true, if_false, true_and, and_true, false_and, and_false, or_true, true_or, or_false, false_or, not_true_eq_false, not_false_eq_true, ite_not, z_b0, z_b1, z_b01, kGK0, kMK0, hL, f0, z1, f1, c1, z2, f2, c2, z9, e1, e2, and_self, if_true, if_false]
theorem lw_10 : LwS 496 := by
  intro R m S0 K L i hR hK0 hK hL hi0 hi hL2 hx
  obtain ⟨v, R1, m1, m2, e1, e2, e3, e4⟩ := top_worth (R 0 (3 + (i + 1))) (R 0 (3 + (i + 2))) R m S0 K hR hK0 hK
  have z1 : zw (i + 1) = i + 1 := zw_i (by omega) (by omega)
  have f1 : R1 0 (3 + (i + 1)) = R 0 (3 + (i + 1)) := e4 _ (by omega) (by omega)
  have c1 : 0 ≤ i + 1 ∧ i + 1 < L := by omega
  have z2 : zw (i + 2) = i + 2 := zw_i (by omega) (by omega)
  have f2 : R1 0 (3 + (i + 2)) = R 0 (3 + (i + 2)) := e4 _ (by omega) (by omega)
  have c2 : 0 ≤ i + 2 ∧ i + 2 < L := by omega
  have z9 : zw (i + 5) = i + 5 := zw_i (by omega) (by omega)
  have f0 : R1 0 2 = L := by rw [e4 2 (by decide) (by decide)]; exact hL
  refine ⟨R1, m2, ?_, e3, e4⟩
  simp only [s0_496, s0_497, s0_498, s0_499, s0_500, s0_501, s0_502, s0_503, s0_504, s0_505, s0_506, s0_507, s0_510, s0_511, s0_512, s0_513, s0_514, s0_515, s0_516, s0_517, s0_518, s0_519, s0_520, s0_521, s0_524, s0_1397, s0_1400, zps_0, zps_1, zps_2, zps_3, zps_9, Option.bind_some, Option.bind_none, Int.reduceEq, Int.reduceNe, Int.reduceLT, Int.reduceLE, Int.reduceNeg, Int.reduceAdd, Int.reduceSub, Int.reduceMul, reduceIte, if_true, if_false, true_and, and_true, false_and, and_false, or_true, true_or, or_false, false_or, not_true_eq_false, not_false_eq_true, ite_not, z_b0, z_b1, z_b01, kGK0, kMK0, hL, f0, z1, f1, c1, z2, f2, c2, z9, e1, e2, and_self, if_true, if_false]
theorem lw_11 : LwS 529 := by
  intro R m S0 K L i hR hK0 hK hL hi0 hi hL2 hx
  obtain ⟨v, R1, m1, m2, e1, e2, e3, e4⟩ := top_cause (R 0 (3 + (i + 1))) (R 0 (3 + (i + 2))) (R 0 (3 + (i + 3))) R m S0 K hR hK0 hK
  have z1 : zw (i + 1) = i + 1 := zw_i (by omega) (by omega)
  have f1 : R1 0 (3 + (i + 1)) = R 0 (3 + (i + 1)) := e4 _ (by omega) (by omega)
  have c1 : 0 ≤ i + 1 ∧ i + 1 < L := by omega
  have z2 : zw (i + 2) = i + 2 := zw_i (by omega) (by omega)
  have f2 : R1 0 (3 + (i + 2)) = R 0 (3 + (i + 2)) := e4 _ (by omega) (by omega)
  have c2 : 0 ≤ i + 2 ∧ i + 2 < L := by omega
  have z3 : zw (i + 3) = i + 3 := zw_i (by omega) (by omega)
  have f3 : R1 0 (3 + (i + 3)) = R 0 (3 + (i + 3)) := e4 _ (by omega) (by omega)
  have c3 : 0 ≤ i + 3 ∧ i + 3 < L := by omega
  have z9 : zw (i + 5) = i + 5 := zw_i (by omega) (by omega)
  have f0 : R1 0 2 = L := by rw [e4 2 (by decide) (by decide)]; exact hL
  refine ⟨R1, m2, ?_, e3, e4⟩
  simp only [s0_529, s0_530, s0_531, s0_532, s0_533, s0_534, s0_535, s0_536, s0_537, s0_538, s0_539, s0_540, s0_541, s0_542, s0_543, s0_544, s0_545, s0_548, s0_549, s0_550, s0_551, s0_552, s0_553, s0_554, s0_555, s0_556, s0_557, s0_558, s0_559, s0_560, s0_561, s0_562, s0_563, s0_564, s0_567, s0_1397, s0_1400, zps_0, zps_1, zps_2, zps_3, zps_9, Option.bind_some, Option.bind_none, Int.reduceEq, Int.reduceNe, Int.reduceLT, Int.reduceLE, Int.reduceNeg, Int.reduceAdd, Int.reduceSub, Int.reduceMul, reduceIte, if_true, if_false, true_and, and_true, false_and, and_false, or_true, true_or, or_false, false_or, not_true_eq_false, not_false_eq_true, ite_not, z_b0, z_b1, z_b01, kGK0, kMK0, hL, f0, z1, f1, c1, z2, f2, c2, z3, f3, c3, z9, e1, e2, and_self, if_true, if_false]
theorem lw_12 : LwS 572 := by
  intro R m S0 K L i hR hK0 hK hL hi0 hi hL2 hx
  obtain ⟨v, R1, m1, m2, e1, e2, e3, e4⟩ := top_may (R 0 (3 + (i + 1))) (R 0 (3 + (i + 2))) R m S0 K hR hK0 hK
  have z1 : zw (i + 1) = i + 1 := zw_i (by omega) (by omega)
  have f1 : R1 0 (3 + (i + 1)) = R 0 (3 + (i + 1)) := e4 _ (by omega) (by omega)
  have c1 : 0 ≤ i + 1 ∧ i + 1 < L := by omega
  have z2 : zw (i + 2) = i + 2 := zw_i (by omega) (by omega)
  have f2 : R1 0 (3 + (i + 2)) = R 0 (3 + (i + 2)) := e4 _ (by omega) (by omega)
  have c2 : 0 ≤ i + 2 ∧ i + 2 < L := by omega
  have z9 : zw (i + 5) = i + 5 := zw_i (by omega) (by omega)
  have f0 : R1 0 2 = L := by rw [e4 2 (by decide) (by decide)]; exact hL
  refine ⟨R1, m2, ?_, e3, e4⟩
  simp only [s0_572, s0_573, s0_574, s0_575, s0_576, s0_577, s0_578, s0_579, s0_580, s0_581, s0_582, s0_583, s0_586, s0_587, s0_588, s0_589, s0_590, s0_591, s0_592, s0_593, s0_594, s0_595, s0_596, s0_597, s0_600, s0_1397, s0_1400, zps_0, zps_1, zps_2, zps_3, zps_9, Option.bind_some, Option.bind_none, Int.reduceEq, Int.reduceNe, Int.reduceLT, Int.reduceLE, Int.reduceNeg, Int.reduceAdd, Int.reduceSub, Int.reduceMul, reduceIte, if_true, if_false, true_and, and_true, false_and, and_false, or_true, true_or, or_false, false_or, not_true_eq_false, not_false_eq_true, ite_not, z_b0, z_b1, z_b01, kGK0, kMK0, hL, f0, z1, f1, c1, z2, f2, c2, z9, e1, e2, and_self, if_true, if_false]
theorem lw_13 : LwS 605 := by
  intro R m S0 K L i hR hK0 hK hL hi0 hi hL2 hx
  obtain ⟨v, R1, m1, m2, e1, e2, e3, e4⟩ := top_seeker (R 0 (3 + (i + 1))) (R 0 (3 + (i + 2))) (R 0 (3 + (i + 3))) (R 0 (3 + (i + 4))) R m S0 K hR hK0 hK
  have z1 : zw (i + 1) = i + 1 := zw_i (by omega) (by omega)
  have f1 : R1 0 (3 + (i + 1)) = R 0 (3 + (i + 1)) := e4 _ (by omega) (by omega)
  have c1 : 0 ≤ i + 1 ∧ i + 1 < L := by omega
  have z2 : zw (i + 2) = i + 2 := zw_i (by omega) (by omega)
  have f2 : R1 0 (3 + (i + 2)) = R 0 (3 + (i + 2)) := e4 _ (by omega) (by omega)
  have c2 : 0 ≤ i + 2 ∧ i + 2 < L := by omega
  have z3 : zw (i + 3) = i + 3 := zw_i (by omega) (by omega)
  have f3 : R1 0 (3 + (i + 3)) = R 0 (3 + (i + 3)) := e4 _ (by omega) (by omega)
  have c3 : 0 ≤ i + 3 ∧ i + 3 < L := by omega
  have z4 : zw (i + 4) = i + 4 := zw_i (by omega) (by omega)
  have f4 : R1 0 (3 + (i + 4)) = R 0 (3 + (i + 4)) := e4 _ (by omega) (by omega)
  have c4 : 0 ≤ i + 4 ∧ i + 4 < L := by omega
  have z9 : zw (i + 5) = i + 5 := zw_i (by omega) (by omega)
  have f0 : R1 0 2 = L := by rw [e4 2 (by decide) (by decide)]; exact hL
  refine ⟨R1, m2, ?_, e3, e4⟩
  simp only [s0_605, s0_606, s0_607, s0_608, s0_609, s0_610, s0_611, s0_612, s0_613, s0_614, s0_615, s0_616, s0_617, s0_618, s0_619, s0_620, s0_621, s0_622, s0_623, s0_624, s0_625, s0_626, s0_629, s0_630, s0_631, s0_632, s0_633, s0_634, s0_635, s0_636, s0_637, s0_638, s0_639, s0_640, s0_641, s0_642, s0_643, s0_644, s0_645, s0_646, s0_647, s0_648, s0_649, s0_650, s0_653, s0_1397, s0_1400, zps_0, zps_1, zps_2, zps_3, zps_9, Option.bind_some, Option.bind_none, Int.reduceEq, Int.reduceNe, Int.reduceLT, Int.reduceLE, Int.reduceNeg, Int.reduceAdd, Int.reduceSub, Int.reduceMul, reduceIte, if_true, if_false, true_and, and_true, false_and, and_false, or_true, true_or, or_false, false_or, not_true_eq_false, not_false_eq_true, ite_not, z_b0, z_b1, z_b01, kGK0, kMK0, hL, f0, z1, f1, c1, z2, f2, c2, z3, f3, c3, z4, f4, c4, z9, e1, e2, and_self, if_true, if_false]
theorem lw_14 : LwS 658 := by
  intro R m S0 K L i hR hK0 hK hL hi0 hi hL2 hx
  obtain ⟨v, R1, m1, m2, e1, e2, e3, e4⟩ := top_told (R 0 (3 + (i + 1))) (R 0 (3 + (i + 2))) R m S0 K hR hK0 hK
  have z1 : zw (i + 1) = i + 1 := zw_i (by omega) (by omega)
  have f1 : R1 0 (3 + (i + 1)) = R 0 (3 + (i + 1)) := e4 _ (by omega) (by omega)
  have c1 : 0 ≤ i + 1 ∧ i + 1 < L := by omega
  have z2 : zw (i + 2) = i + 2 := zw_i (by omega) (by omega)
  have f2 : R1 0 (3 + (i + 2)) = R 0 (3 + (i + 2)) := e4 _ (by omega) (by omega)
  have c2 : 0 ≤ i + 2 ∧ i + 2 < L := by omega
  have z9 : zw (i + 5) = i + 5 := zw_i (by omega) (by omega)
  have f0 : R1 0 2 = L := by rw [e4 2 (by decide) (by decide)]; exact hL
  refine ⟨R1, m2, ?_, e3, e4⟩
  simp only [s0_658, s0_659, s0_660, s0_661, s0_662, s0_663, s0_664, s0_665, s0_666, s0_667, s0_668, s0_669, s0_672, s0_673, s0_674, s0_675, s0_676, s0_677, s0_678, s0_679, s0_680, s0_681, s0_682, s0_683, s0_686, s0_1397, s0_1400, zps_0, zps_1, zps_2, zps_3, zps_9, Option.bind_some, Option.bind_none, Int.reduceEq, Int.reduceNe, Int.reduceLT, Int.reduceLE, Int.reduceNeg, Int.reduceAdd, Int.reduceSub, Int.reduceMul, reduceIte, if_true, if_false, true_and, and_true, false_and, and_false, or_true, true_or, or_false, false_or, not_true_eq_false, not_false_eq_true, ite_not, z_b0, z_b1, z_b01, kGK0, kMK0, hL, f0, z1, f1, c1, z2, f2, c2, z9, e1, e2, and_self, if_true, if_false]
theorem lw_15 : LwS 691 := by
  intro R m S0 K L i hR hK0 hK hL hi0 hi hL2 hx
  obtain ⟨v, R1, m1, m2, e1, e2, e3, e4⟩ := top_would (R 0 (3 + (i + 1))) R m S0 K hR hK0 hK
  have z1 : zw (i + 1) = i + 1 := zw_i (by omega) (by omega)
  have f1 : R1 0 (3 + (i + 1)) = R 0 (3 + (i + 1)) := e4 _ (by omega) (by omega)
  have c1 : 0 ≤ i + 1 ∧ i + 1 < L := by omega
  have z9 : zw (i + 5) = i + 5 := zw_i (by omega) (by omega)
  have f0 : R1 0 2 = L := by rw [e4 2 (by decide) (by decide)]; exact hL
  refine ⟨R1, m2, ?_, e3, e4⟩
  simp only [s0_691, s0_692, s0_693, s0_694, s0_695, s0_696, s0_697, s0_700, s0_701, s0_702, s0_703, s0_704, s0_705, s0_706, s0_709, s0_1397, s0_1400, zps_0, zps_1, zps_2, zps_3, zps_9, Option.bind_some, Option.bind_none, Int.reduceEq, Int.reduceNe, Int.reduceLT, Int.reduceLE, Int.reduceNeg, Int.reduceAdd, Int.reduceSub, Int.reduceMul, reduceIte, if_true, if_false, true_and, and_true, false_and, and_false, or_true, true_or, or_false, false_or, not_true_eq_false, not_false_eq_true, ite_not, z_b0, z_b1, z_b01, kGK0, kMK0, hL, f0, z1, f1, c1, z9, e1, e2, and_self, if_true, if_false]
theorem lw_16 : LwS 714 := by
  intro R m S0 K L i hR hK0 hK hL hi0 hi hL2 hx
  obtain ⟨v, R1, m1, m2, e1, e2, e3, e4⟩ := top_year R m S0 K hR hK0 hK
  have z9 : zw (i + 5) = i + 5 := zw_i (by omega) (by omega)
  have f0 : R1 0 2 = L := by rw [e4 2 (by decide) (by decide)]; exact hL
  refine ⟨R1, m2, ?_, e3, e4⟩
  simp only [s0_714, s0_715, s0_718, s0_719, s0_722, s0_1397, s0_1400, zps_0, zps_1, zps_2, zps_3, zps_9, Option.bind_some, Option.bind_none, Int.reduceEq, Int.reduceNe, Int.reduceLT, Int.reduceLE, Int.reduceNeg, Int.reduceAdd, Int.reduceSub, Int.reduceMul, reduceIte, if_true, if_false, true_and, and_true, false_and, and_false, or_true, true_or, or_false, false_or, not_true_eq_false, not_false_eq_true, ite_not, z_b0, z_b1, z_b01, kGK0, kMK0, hL, f0, z9, e1, e2, and_self, if_true, if_false]
theorem lw_17 : LwS 727 := by
  intro R m S0 K L i hR hK0 hK hL hi0 hi hL2 hx
  obtain ⟨v, R1, m1, m2, e1, e2, e3, e4⟩ := top_was (R 0 (3 + (i + 1))) (R 0 (3 + (i + 2))) R m S0 K hR hK0 hK
  have z1 : zw (i + 1) = i + 1 := zw_i (by omega) (by omega)
  have f1 : R1 0 (3 + (i + 1)) = R 0 (3 + (i + 1)) := e4 _ (by omega) (by omega)
  have c1 : 0 ≤ i + 1 ∧ i + 1 < L := by omega
  have z2 : zw (i + 2) = i + 2 := zw_i (by omega) (by omega)
  have f2 : R1 0 (3 + (i + 2)) = R 0 (3 + (i + 2)) := e4 _ (by omega) (by omega)
  have c2 : 0 ≤ i + 2 ∧ i + 2 < L := by omega
  have z9 : zw (i + 5) = i + 5 := zw_i (by omega) (by omega)
  have f0 : R1 0 2 = L := by rw [e4 2 (by decide) (by decide)]; exact hL
  refine ⟨R1, m2, ?_, e3, e4⟩
  simp only [s0_727, s0_728, s0_729, s0_730, s0_731, s0_732, s0_733, s0_734, s0_735, s0_736, s0_737, s0_738, s0_741, s0_742, s0_743, s0_744, s0_745, s0_746, s0_747, s0_748, s0_749, s0_750, s0_751, s0_752, s0_755, s0_1397, s0_1400, zps_0, zps_1, zps_2, zps_3, zps_9, Option.bind_some, Option.bind_none, Int.reduceEq, Int.reduceNe, Int.reduceLT, Int.reduceLE, Int.reduceNeg, Int.reduceAdd, Int.reduceSub, Int.reduceMul, reduceIte, if_true, if_false, true_and, and_true, false_and, and_false, or_true, true_or, or_false, false_or, not_true_eq_false, not_false_eq_true, ite_not, z_b0, z_b1, z_b01, kGK0, kMK0, hL, f0, z1, f1, c1, z2, f2, c2, z9, e1, e2, and_self, if_true, if_false]
theorem lw_18 : LwS 760 := by
  intro R m S0 K L i hR hK0 hK hL hi0 hi hL2 hx
  obtain ⟨v, R1, m1, m2, e1, e2, e3, e4⟩ := top_went (R 0 (3 + (i + 1))) (R 0 (3 + (i + 2))) R m S0 K hR hK0 hK
  have z1 : zw (i + 1) = i + 1 := zw_i (by omega) (by omega)
  have f1 : R1 0 (3 + (i + 1)) = R 0 (3 + (i + 1)) := e4 _ (by omega) (by omega)
  have c1 : 0 ≤ i + 1 ∧ i + 1 < L := by omega
  have z2 : zw (i + 2) = i + 2 := zw_i (by omega) (by omega)
  have f2 : R1 0 (3 + (i + 2)) = R 0 (3 + (i + 2)) := e4 _ (by omega) (by omega)
  have c2 : 0 ≤ i + 2 ∧ i + 2 < L := by omega
  have z9 : zw (i + 5) = i + 5 := zw_i (by omega) (by omega)
  have f0 : R1 0 2 = L := by rw [e4 2 (by decide) (by decide)]; exact hL
  refine ⟨R1, m2, ?_, e3, e4⟩
  simp only [s0_760, s0_761, s0_762, s0_763, s0_764, s0_765, s0_766, s0_767, s0_768, s0_769, s0_770, s0_771, s0_774, s0_775, s0_776, s0_777, s0_778, s0_779, s0_780, s0_781, s0_782, s0_783, s0_784, s0_785, s0_788, s0_1397, s0_1400, zps_0, zps_1, zps_2, zps_3, zps_9, Option.bind_some, Option.bind_none, Int.reduceEq, Int.reduceNe, Int.reduceLT, Int.reduceLE, Int.reduceNeg, Int.reduceAdd, Int.reduceSub, Int.reduceMul, reduceIte, if_true, if_false, true_and, and_true, false_and, and_false, or_true, true_or, or_false, false_or, not_true_eq_false, not_false_eq_true, ite_not, z_b0, z_b1, z_b01, kGK0, kMK0, hL, f0, z1, f1, c1, z2, f2, c2, z9, e1, e2, and_self, if_true, if_false]
theorem lw_19 : LwS 793 := by
  intro R m S0 K L i hR hK0 hK hL hi0 hi hL2 hx
  obtain ⟨v, R1, m1, m2, e1, e2, e3, e4⟩ := top_without (R 0 (3 + (i + 1))) R m S0 K hR hK0 hK
  have z1 : zw (i + 1) = i + 1 := zw_i (by omega) (by omega)
  have f1 : R1 0 (3 + (i + 1)) = R 0 (3 + (i + 1)) := e4 _ (by omega) (by omega)
  have c1 : 0 ≤ i + 1 ∧ i + 1 < L := by omega
  have z9 : zw (i + 5) = i + 5 := zw_i (by omega) (by omega)
  have f0 : R1 0 2 = L := by rw [e4 2 (by decide) (by decide)]; exact hL
  refine ⟨R1, m2, ?_, e3, e4⟩
  simp only [s0_793, s0_794, s0_795, s0_796, s0_797, s0_798, s0_799, s0_802, s0_803, s0_804, s0_805, s0_806, s0_807, s0_808, s0_811, s0_1397, s0_1400, zps_0, zps_1, zps_2, zps_3, zps_9, Option.bind_some, Option.bind_none, Int.reduceEq, Int.reduceNe, Int.reduceLT, Int.reduceLE, Int.reduceNeg, Int.reduceAdd, Int.reduceSub, Int.reduceMul, reduceIte, if_true, if_false, true_and, and_true, false_and, and_false, or_true, true_or, or_false, false_or, not_true_eq_false, not_false_eq_true, ite_not, z_b0, z_b1, z_b01, kGK0, kMK0, hL, f0, z1, f1, c1, z9, e1, e2, and_self, if_true, if_false]
theorem lw_20 : LwS 816 := by
  intro R m S0 K L i hR hK0 hK hL hi0 hi hL2 hx
  obtain ⟨v, R1, m1, m2, e1, e2, e3, e4⟩ := top_withoutMore (R 0 (3 + (i + 1))) R m S0 K hR hK0 hK
  have z1 : zw (i + 1) = i + 1 := zw_i (by omega) (by omega)
  have f1 : R1 0 (3 + (i + 1)) = R 0 (3 + (i + 1)) := e4 _ (by omega) (by omega)
  have c1 : 0 ≤ i + 1 ∧ i + 1 < L := by omega
  have z9 : zw (i + 5) = i + 5 := zw_i (by omega) (by omega)
  have f0 : R1 0 2 = L := by rw [e4 2 (by decide) (by decide)]; exact hL
  refine ⟨R1, m2, ?_, e3, e4⟩
  simp only [s0_816, s0_817, s0_818, s0_819, s0_820, s0_821, s0_822, s0_825, s0_826, s0_827, s0_828, s0_829, s0_830, s0_831, s0_834, s0_1397, s0_1400, zps_0, zps_1, zps_2, zps_3, zps_9, Option.bind_some, Option.bind_none, Int.reduceEq, Int.reduceNe, Int.reduceLT, Int.reduceLE, Int.reduceNeg, Int.reduceAdd, Int.reduceSub, Int.reduceMul, reduceIte, if_true, if_false, true_and, and_true, false_and, and_false, or_true, true_or, or_false, false_or, not_true_eq_false, not_false_eq_true, ite_not, z_b0, z_b1, z_b01, kGK0, kMK0, hL, f0, z1, f1, c1, z9, e1, e2, and_self, if_true, if_false]
theorem lw_21 : LwS 839 := by
  intro R m S0 K L i hR hK0 hK hL hi0 hi hL2 hx
  obtain ⟨v, R1, m1, m2, e1, e2, e3, e4⟩ := top_tram (R 0 (3 + (i + 1))) (R 0 (3 + (i + 2))) R m S0 K hR hK0 hK
  have z1 : zw (i + 1) = i + 1 := zw_i (by omega) (by omega)
  have f1 : R1 0 (3 + (i + 1)) = R 0 (3 + (i + 1)) := e4 _ (by omega) (by omega)
  have c1 : 0 ≤ i + 1 ∧ i + 1 < L := by omega
  have z2 : zw (i + 2) = i + 2 := zw_i (by omega) (by omega)
  have f2 : R1 0 (3 + (i + 2)) = R 0 (3 + (i + 2)) := e4 _ (by omega) (by omega)
  have c2 : 0 ≤ i + 2 ∧ i + 2 < L := by omega
  have z9 : zw (i + 5) = i + 5 := zw_i (by omega) (by omega)
  have f0 : R1 0 2 = L := by rw [e4 2 (by decide) (by decide)]; exact hL
  refine ⟨R1, m2, ?_, e3, e4⟩
  simp only [s0_839, s0_840, s0_841, s0_842, s0_843, s0_844, s0_845, s0_846, s0_847, s0_848, s0_849, s0_850, s0_853, s0_854, s0_855, s0_856, s0_857, s0_858, s0_859, s0_860, s0_861, s0_862, s0_863, s0_864, s0_867, s0_1397, s0_1400, zps_0, zps_1, zps_2, zps_3, zps_9, Option.bind_some, Option.bind_none, Int.reduceEq, Int.reduceNe, Int.reduceLT, Int.reduceLE, Int.reduceNeg, Int.reduceAdd, Int.reduceSub, Int.reduceMul, reduceIte, if_true, if_false, true_and, and_true, false_and, and_false, or_true, true_or, or_false, false_or, not_true_eq_false, not_false_eq_true, ite_not, z_b0, z_b1, z_b01, kGK0, kMK0, hL, f0, z1, f1, c1, z2, f2, c2, z9, e1, e2, and_self, if_true, if_false]
theorem lw_22 : LwS 872 := by
  intro R m S0 K L i hR hK0 hK hL hi0 hi hL2 hx
  obtain ⟨v, R1, m1, m2, e1, e2, e3, e4⟩ := top_stop (R 0 (3 + (i + 1))) (R 0 (3 + (i + 2))) R m S0 K hR hK0 hK
  have z1 : zw (i + 1) = i + 1 := zw_i (by omega) (by omega)
  have f1 : R1 0 (3 + (i + 1)) = R 0 (3 + (i + 1)) := e4 _ (by omega) (by omega)
  have c1 : 0 ≤ i + 1 ∧ i + 1 < L := by omega
  have z2 : zw (i + 2) = i + 2 := zw_i (by omega) (by omega)
  have f2 : R1 0 (3 + (i + 2)) = R 0 (3 + (i + 2)) := e4 _ (by omega) (by omega)
  have c2 : 0 ≤ i + 2 ∧ i + 2 < L := by omega
  have z9 : zw (i + 5) = i + 5 := zw_i (by omega) (by omega)
  have f0 : R1 0 2 = L := by rw [e4 2 (by decide) (by decide)]; exact hL
  refine ⟨R1, m2, ?_, e3, e4⟩
  simp only [s0_872, s0_873, s0_874, s0_875, s0_876, s0_877, s0_878, s0_879, s0_880, s0_881, s0_882, s0_883, s0_886, s0_887, s0_888, s0_889, s0_890, s0_891, s0_892, s0_893, s0_894, s0_895, s0_896, s0_897, s0_900, s0_1397, s0_1400, zps_0, zps_1, zps_2, zps_3, zps_9, Option.bind_some, Option.bind_none, Int.reduceEq, Int.reduceNe, Int.reduceLT, Int.reduceLE, Int.reduceNeg, Int.reduceAdd, Int.reduceSub, Int.reduceMul, reduceIte, if_true, if_false, true_and, and_true, false_and, and_false, or_true, true_or, or_false, false_or, not_true_eq_false, not_false_eq_true, ite_not, z_b0, z_b1, z_b01, kGK0, kMK0, hL, f0, z1, f1, c1, z2, f2, c2, z9, e1, e2, and_self, if_true, if_false]
theorem lw_23 : LwS 905 := by
  intro R m S0 K L i hR hK0 hK hL hi0 hi hL2 hx
  obtain ⟨v, R1, m1, m2, e1, e2, e3, e4⟩ := top_time (R 0 (3 + (i + 1))) (R 0 (3 + (i + 2))) R m S0 K hR hK0 hK
  have z1 : zw (i + 1) = i + 1 := zw_i (by omega) (by omega)
  have f1 : R1 0 (3 + (i + 1)) = R 0 (3 + (i + 1)) := e4 _ (by omega) (by omega)
  have c1 : 0 ≤ i + 1 ∧ i + 1 < L := by omega
  have z2 : zw (i + 2) = i + 2 := zw_i (by omega) (by omega)
  have f2 : R1 0 (3 + (i + 2)) = R 0 (3 + (i + 2)) := e4 _ (by omega) (by omega)
  have c2 : 0 ≤ i + 2 ∧ i + 2 < L := by omega
  have z9 : zw (i + 5) = i + 5 := zw_i (by omega) (by omega)
  have f0 : R1 0 2 = L := by rw [e4 2 (by decide) (by decide)]; exact hL
  refine ⟨R1, m2, ?_, e3, e4⟩
  simp only [s0_905, s0_906, s0_907, s0_908, s0_909, s0_910, s0_911, s0_912, s0_913, s0_914, s0_915, s0_916, s0_919, s0_920, s0_921, s0_922, s0_923, s0_924, s0_925, s0_926, s0_927, s0_928, s0_929, s0_930, s0_933, s0_1397, s0_1400, zps_0, zps_1, zps_2, zps_3, zps_9, Option.bind_some, Option.bind_none, Int.reduceEq, Int.reduceNe, Int.reduceLT, Int.reduceLE, Int.reduceNeg, Int.reduceAdd, Int.reduceSub, Int.reduceMul, reduceIte, if_true, if_false, true_and, and_true, false_and, and_false, or_true, true_or, or_false, false_or, not_true_eq_false, not_false_eq_true, ite_not, z_b0, z_b1, z_b01, kGK0, kMK0, hL, f0, z1, f1, c1, z2, f2, c2, z9, e1, e2, and_self, if_true, if_false]
theorem lw_24 : LwS 938 := by
  intro R m S0 K L i hR hK0 hK hL hi0 hi hL2 hx
  obtain ⟨v, R1, m1, m2, e1, e2, e3, e4⟩ := top_way (R 0 (3 + (i + 1))) (R 0 (3 + (i + 2))) (R 0 (3 + (i + 3))) R m S0 K hR hK0 hK
  have z1 : zw (i + 1) = i + 1 := zw_i (by omega) (by omega)
  have f1 : R1 0 (3 + (i + 1)) = R 0 (3 + (i + 1)) := e4 _ (by omega) (by omega)
  have c1 : 0 ≤ i + 1 ∧ i + 1 < L := by omega
  have z2 : zw (i + 2) = i + 2 := zw_i (by omega) (by omega)
  have f2 : R1 0 (3 + (i + 2)) = R 0 (3 + (i + 2)) := e4 _ (by omega) (by omega)
  have c2 : 0 ≤ i + 2 ∧ i + 2 < L := by omega
  have z3 : zw (i + 3) = i + 3 := zw_i (by omega) (by omega)
  have f3 : R1 0 (3 + (i + 3)) = R 0 (3 + (i + 3)) := e4 _ (by omega) (by omega)
  have c3 : 0 ≤ i + 3 ∧ i + 3 < L := by omega
  have z9 : zw (i + 5) = i + 5 := zw_i (by omega) (by omega)
  have f0 : R1 0 2 = L := by rw [e4 2 (by decide) (by decide)]; exact hL
  refine ⟨R1, m2, ?_, e3, e4⟩
  simp only [s0_938, s0_939, s0_940, s0_941, s0_942, s0_943, s0_944, s0_945, s0_946, s0_947, s0_948, s0_949, s0_950, s0_951, s0_952, s0_953, s0_954, s0_957, s0_958, s0_959, s0_960, s0_961, s0_962, s0_963, s0_964, s0_965, s0_966, s0_967, s0_968, s0_969, s0_970, s0_971, s0_972, s0_973, s0_976, s0_1397, s0_1400, zps_0, zps_1, zps_2, zps_3, zps_9, Option.bind_some, Option.bind_none, Int.reduceEq, Int.reduceNe, Int.reduceLT, Int.reduceLE, Int.reduceNeg, Int.reduceAdd, Int.reduceSub, Int.reduceMul, reduceIte, if_true, if_false, true_and, and_true, false_and, and_false, or_true, true_or, or_false, false_or, not_true_eq_false, not_false_eq_true, ite_not, z_b0, z_b1, z_b01, kGK0, kMK0, hL, f0, z1, f1, c1, z2, f2, c2, z3, f3, c3, z9, e1, e2, and_self, if_true, if_false]
theorem lw_25 : LwS 981 := by
  intro R m S0 K L i hR hK0 hK hL hi0 hi hL2 hx
  obtain ⟨v, R1, m1, m2, e1, e2, e3, e4⟩ := top_trip (R 0 (3 + (i + 1))) (R 0 (3 + (i + 2))) R m S0 K hR hK0 hK
  have z1 : zw (i + 1) = i + 1 := zw_i (by omega) (by omega)
  have f1 : R1 0 (3 + (i + 1)) = R 0 (3 + (i + 1)) := e4 _ (by omega) (by omega)
  have c1 : 0 ≤ i + 1 ∧ i + 1 < L := by omega
  have z2 : zw (i + 2) = i + 2 := zw_i (by omega) (by omega)
  have f2 : R1 0 (3 + (i + 2)) = R 0 (3 + (i + 2)) := e4 _ (by omega) (by omega)
  have c2 : 0 ≤ i + 2 ∧ i + 2 < L := by omega
  have z9 : zw (i + 5) = i + 5 := zw_i (by omega) (by omega)
  have f0 : R1 0 2 = L := by rw [e4 2 (by decide) (by decide)]; exact hL
  refine ⟨R1, m2, ?_, e3, e4⟩
  simp only [s0_981, s0_982, s0_983, s0_984, s0_985, s0_986, s0_987, s0_988, s0_989, s0_990, s0_991, s0_992, s0_995, s0_996, s0_997, s0_998, s0_999, s0_1000, s0_1001, s0_1002, s0_1003, s0_1004, s0_1005, s0_1006, s0_1009, s0_1397, s0_1400, zps_0, zps_1, zps_2, zps_3, zps_9, Option.bind_some, Option.bind_none, Int.reduceEq, Int.reduceNe, Int.reduceLT, Int.reduceLE, Int.reduceNeg, Int.reduceAdd, Int.reduceSub, Int.reduceMul, reduceIte, if_true, if_false, true_and, and_true, false_and, and_false, or_true, true_or, or_false, false_or, not_true_eq_false, not_false_eq_true, ite_not, z_b0, z_b1, z_b01, kGK0, kMK0, hL, f0, z1, f1, c1, z2, f2, c2, z9, e1, e2, and_self, if_true, if_false]
theorem lw_26 : LwS 1014 := by
  intro R m S0 K L i hR hK0 hK hL hi0 hi hL2 hx
  obtain ⟨v, R1, m1, m2, e1, e2, e3, e4⟩ := top_balance R m S0 K hR hK0 hK
  have z9 : zw (i + 5) = i + 5 := zw_i (by omega) (by omega)
  have f0 : R1 0 2 = L := by rw [e4 2 (by decide) (by decide)]; exact hL
  refine ⟨R1, m2, ?_, e3, e4⟩
  simp only [s0_1014, s0_1015, s0_1018, s0_1019, s0_1022, s0_1397, s0_1400, zps_0, zps_1, zps_2, zps_3, zps_9, Option.bind_some, Option.bind_none, Int.reduceEq, Int.reduceNe, Int.reduceLT, Int.reduceLE, Int.reduceNeg, Int.reduceAdd, Int.reduceSub, Int.reduceMul, reduceIte, if_true, if_false, true_and, and_true, false_and, and_false, or_true, true_or, or_false, false_or, not_true_eq_false, not_false_eq_true, ite_not, z_b0, z_b1, z_b01, kGK0, kMK0, hL, f0, z9, e1, e2, and_self, if_true, if_false]
theorem lw_27 : LwS 1027 := by
  intro R m S0 K L i hR hK0 hK hL hi0 hi hL2 hx
  obtain ⟨v, R1, m1, m2, e1, e2, e3, e4⟩ := top_trips (R 0 (3 + (i + 1))) (R 0 (3 + (i + 2))) (by have := hx (3 + (i + 2)) (by omega); unfold zi32 at this; omega) R m S0 K hR hK0 hK
  have z1 : zw (i + 1) = i + 1 := zw_i (by omega) (by omega)
  have f1 : R1 0 (3 + (i + 1)) = R 0 (3 + (i + 1)) := e4 _ (by omega) (by omega)
  have c1 : 0 ≤ i + 1 ∧ i + 1 < L := by omega
  have z2 : zw (i + 2) = i + 2 := zw_i (by omega) (by omega)
  have f2 : R1 0 (3 + (i + 2)) = R 0 (3 + (i + 2)) := e4 _ (by omega) (by omega)
  have c2 : 0 ≤ i + 2 ∧ i + 2 < L := by omega
  have z9 : zw (i + 5) = i + 5 := zw_i (by omega) (by omega)
  have f0 : R1 0 2 = L := by rw [e4 2 (by decide) (by decide)]; exact hL
  refine ⟨R1, m2, ?_, e3, e4⟩
  simp only [s0_1027, s0_1028, s0_1029, s0_1030, s0_1031, s0_1032, s0_1033, s0_1034, s0_1035, s0_1036, s0_1037, s0_1038, s0_1041, s0_1042, s0_1043, s0_1044, s0_1045, s0_1046, s0_1047, s0_1048, s0_1049, s0_1050, s0_1051, s0_1052, s0_1055, s0_1397, s0_1400, zps_0, zps_1, zps_2, zps_3, zps_9, Option.bind_some, Option.bind_none, Int.reduceEq, Int.reduceNe, Int.reduceLT, Int.reduceLE, Int.reduceNeg, Int.reduceAdd, Int.reduceSub, Int.reduceMul, reduceIte, if_true, if_false, true_and, and_true, false_and, and_false, or_true, true_or, or_false, false_or, not_true_eq_false, not_false_eq_true, ite_not, z_b0, z_b1, z_b01, kGK0, kMK0, hL, f0, z1, f1, c1, z2, f2, c2, z9, e1, e2, and_self, if_true, if_false]
theorem lw_28 : LwS 1060 := by
  intro R m S0 K L i hR hK0 hK hL hi0 hi hL2 hx
  obtain ⟨v, R1, m1, m2, e1, e2, e3, e4⟩ := top_plan (R 0 (3 + (i + 1))) (R 0 (3 + (i + 2))) (R 0 (3 + (i + 3))) R m S0 K hR hK0 hK
  have z1 : zw (i + 1) = i + 1 := zw_i (by omega) (by omega)
  have f1 : R1 0 (3 + (i + 1)) = R 0 (3 + (i + 1)) := e4 _ (by omega) (by omega)
  have c1 : 0 ≤ i + 1 ∧ i + 1 < L := by omega
  have z2 : zw (i + 2) = i + 2 := zw_i (by omega) (by omega)
  have f2 : R1 0 (3 + (i + 2)) = R 0 (3 + (i + 2)) := e4 _ (by omega) (by omega)
  have c2 : 0 ≤ i + 2 ∧ i + 2 < L := by omega
  have z3 : zw (i + 3) = i + 3 := zw_i (by omega) (by omega)
  have f3 : R1 0 (3 + (i + 3)) = R 0 (3 + (i + 3)) := e4 _ (by omega) (by omega)
  have c3 : 0 ≤ i + 3 ∧ i + 3 < L := by omega
  have z9 : zw (i + 5) = i + 5 := zw_i (by omega) (by omega)
  have f0 : R1 0 2 = L := by rw [e4 2 (by decide) (by decide)]; exact hL
  refine ⟨R1, m2, ?_, e3, e4⟩
  simp only [s0_1060, s0_1061, s0_1062, s0_1063, s0_1064, s0_1065, s0_1066, s0_1067, s0_1068, s0_1069, s0_1070, s0_1071, s0_1072, s0_1073, s0_1074, s0_1075, s0_1076, s0_1079, s0_1080, s0_1081, s0_1082, s0_1083, s0_1084, s0_1085, s0_1086, s0_1087, s0_1088, s0_1089, s0_1090, s0_1091, s0_1092, s0_1093, s0_1094, s0_1095, s0_1098, s0_1397, s0_1400, zps_0, zps_1, zps_2, zps_3, zps_9, Option.bind_some, Option.bind_none, Int.reduceEq, Int.reduceNe, Int.reduceLT, Int.reduceLE, Int.reduceNeg, Int.reduceAdd, Int.reduceSub, Int.reduceMul, reduceIte, if_true, if_false, true_and, and_true, false_and, and_false, or_true, true_or, or_false, false_or, not_true_eq_false, not_false_eq_true, ite_not, z_b0, z_b1, z_b01, kGK0, kMK0, hL, f0, z1, f1, c1, z2, f2, c2, z3, f3, c3, z9, e1, e2, and_self, if_true, if_false]
theorem lw_29 : LwS 1103 := by
  intro R m S0 K L i hR hK0 hK hL hi0 hi hL2 hx
  obtain ⟨v, R1, m1, m2, e1, e2, e3, e4⟩ := top_chosen (R 0 (3 + (i + 1))) (R 0 (3 + (i + 2))) R m S0 K hR hK0 hK
  have z1 : zw (i + 1) = i + 1 := zw_i (by omega) (by omega)
  have f1 : R1 0 (3 + (i + 1)) = R 0 (3 + (i + 1)) := e4 _ (by omega) (by omega)
  have c1 : 0 ≤ i + 1 ∧ i + 1 < L := by omega
  have z2 : zw (i + 2) = i + 2 := zw_i (by omega) (by omega)
  have f2 : R1 0 (3 + (i + 2)) = R 0 (3 + (i + 2)) := e4 _ (by omega) (by omega)
  have c2 : 0 ≤ i + 2 ∧ i + 2 < L := by omega
  have z9 : zw (i + 5) = i + 5 := zw_i (by omega) (by omega)
  have f0 : R1 0 2 = L := by rw [e4 2 (by decide) (by decide)]; exact hL
  refine ⟨R1, m2, ?_, e3, e4⟩
  simp only [s0_1103, s0_1104, s0_1105, s0_1106, s0_1107, s0_1108, s0_1109, s0_1110, s0_1111, s0_1112, s0_1113, s0_1114, s0_1117, s0_1118, s0_1119, s0_1120, s0_1121, s0_1122, s0_1123, s0_1124, s0_1125, s0_1126, s0_1127, s0_1128, s0_1131, s0_1397, s0_1400, zps_0, zps_1, zps_2, zps_3, zps_9, Option.bind_some, Option.bind_none, Int.reduceEq, Int.reduceNe, Int.reduceLT, Int.reduceLE, Int.reduceNeg, Int.reduceAdd, Int.reduceSub, Int.reduceMul, reduceIte, if_true, if_false, true_and, and_true, false_and, and_false, or_true, true_or, or_false, false_or, not_true_eq_false, not_false_eq_true, ite_not, z_b0, z_b1, z_b01, kGK0, kMK0, hL, f0, z1, f1, c1, z2, f2, c2, z9, e1, e2, and_self, if_true, if_false]
theorem lw_30 : LwS 1136 := by
  intro R m S0 K L i hR hK0 hK hL hi0 hi hL2 hx
  obtain ⟨v, R1, m1, m2, e1, e2, e3, e4⟩ := top_build (R 0 (3 + (i + 1))) R m S0 K hR hK0 hK
  have z1 : zw (i + 1) = i + 1 := zw_i (by omega) (by omega)
  have f1 : R1 0 (3 + (i + 1)) = R 0 (3 + (i + 1)) := e4 _ (by omega) (by omega)
  have c1 : 0 ≤ i + 1 ∧ i + 1 < L := by omega
  have z9 : zw (i + 5) = i + 5 := zw_i (by omega) (by omega)
  have f0 : R1 0 2 = L := by rw [e4 2 (by decide) (by decide)]; exact hL
  refine ⟨R1, m2, ?_, e3, e4⟩
  simp only [s0_1136, s0_1137, s0_1138, s0_1139, s0_1140, s0_1141, s0_1142, s0_1145, s0_1146, s0_1147, s0_1148, s0_1149, s0_1150, s0_1151, s0_1154, s0_1397, s0_1400, zps_0, zps_1, zps_2, zps_3, zps_9, Option.bind_some, Option.bind_none, Int.reduceEq, Int.reduceNe, Int.reduceLT, Int.reduceLE, Int.reduceNeg, Int.reduceAdd, Int.reduceSub, Int.reduceMul, reduceIte, if_true, if_false, true_and, and_true, false_and, and_false, or_true, true_or, or_false, false_or, not_true_eq_false, not_false_eq_true, ite_not, z_b0, z_b1, z_b01, kGK0, kMK0, hL, f0, z1, f1, c1, z9, e1, e2, and_self, if_true, if_false]
theorem lw_31 : LwS 1159 := by
  intro R m S0 K L i hR hK0 hK hL hi0 hi hL2 hx
  obtain ⟨v, R1, m1, m2, e1, e2, e3, e4⟩ := top_note (R 0 (3 + (i + 1))) (R 0 (3 + (i + 2))) (R 0 (3 + (i + 3))) R m S0 K hR hK0 hK
  have z1 : zw (i + 1) = i + 1 := zw_i (by omega) (by omega)
  have f1 : R1 0 (3 + (i + 1)) = R 0 (3 + (i + 1)) := e4 _ (by omega) (by omega)
  have c1 : 0 ≤ i + 1 ∧ i + 1 < L := by omega
  have z2 : zw (i + 2) = i + 2 := zw_i (by omega) (by omega)
  have f2 : R1 0 (3 + (i + 2)) = R 0 (3 + (i + 2)) := e4 _ (by omega) (by omega)
  have c2 : 0 ≤ i + 2 ∧ i + 2 < L := by omega
  have z3 : zw (i + 3) = i + 3 := zw_i (by omega) (by omega)
  have f3 : R1 0 (3 + (i + 3)) = R 0 (3 + (i + 3)) := e4 _ (by omega) (by omega)
  have c3 : 0 ≤ i + 3 ∧ i + 3 < L := by omega
  have z9 : zw (i + 5) = i + 5 := zw_i (by omega) (by omega)
  have f0 : R1 0 2 = L := by rw [e4 2 (by decide) (by decide)]; exact hL
  refine ⟨R1, m2, ?_, e3, e4⟩
  simp only [s0_1159, s0_1160, s0_1161, s0_1162, s0_1163, s0_1164, s0_1165, s0_1166, s0_1167, s0_1168, s0_1169, s0_1170, s0_1171, s0_1172, s0_1173, s0_1174, s0_1175, s0_1178, s0_1179, s0_1180, s0_1181, s0_1182, s0_1183, s0_1184, s0_1185, s0_1186, s0_1187, s0_1188, s0_1189, s0_1190, s0_1191, s0_1192, s0_1193, s0_1194, s0_1197, s0_1397, s0_1400, zps_0, zps_1, zps_2, zps_3, zps_9, Option.bind_some, Option.bind_none, Int.reduceEq, Int.reduceNe, Int.reduceLT, Int.reduceLE, Int.reduceNeg, Int.reduceAdd, Int.reduceSub, Int.reduceMul, reduceIte, if_true, if_false, true_and, and_true, false_and, and_false, or_true, true_or, or_false, false_or, not_true_eq_false, not_false_eq_true, ite_not, z_b0, z_b1, z_b01, kGK0, kMK0, hL, f0, z1, f1, c1, z2, f2, c2, z3, f3, c3, z9, e1, e2, and_self, if_true, if_false]
theorem lw_32 : LwS 1202 := by
  intro R m S0 K L i hR hK0 hK hL hi0 hi hL2 hx
  obtain ⟨v, R1, m1, m2, e1, e2, e3, e4⟩ := top_known (R 0 (3 + (i + 1))) (R 0 (3 + (i + 2))) (R 0 (3 + (i + 3))) R m S0 K hR hK0 hK
  have z1 : zw (i + 1) = i + 1 := zw_i (by omega) (by omega)
  have f1 : R1 0 (3 + (i + 1)) = R 0 (3 + (i + 1)) := e4 _ (by omega) (by omega)
  have c1 : 0 ≤ i + 1 ∧ i + 1 < L := by omega
  have z2 : zw (i + 2) = i + 2 := zw_i (by omega) (by omega)
  have f2 : R1 0 (3 + (i + 2)) = R 0 (3 + (i + 2)) := e4 _ (by omega) (by omega)
  have c2 : 0 ≤ i + 2 ∧ i + 2 < L := by omega
  have z3 : zw (i + 3) = i + 3 := zw_i (by omega) (by omega)
  have f3 : R1 0 (3 + (i + 3)) = R 0 (3 + (i + 3)) := e4 _ (by omega) (by omega)
  have c3 : 0 ≤ i + 3 ∧ i + 3 < L := by omega
  have z9 : zw (i + 5) = i + 5 := zw_i (by omega) (by omega)
  have f0 : R1 0 2 = L := by rw [e4 2 (by decide) (by decide)]; exact hL
  refine ⟨R1, m2, ?_, e3, e4⟩
  simp only [s0_1202, s0_1203, s0_1204, s0_1205, s0_1206, s0_1207, s0_1208, s0_1209, s0_1210, s0_1211, s0_1212, s0_1213, s0_1214, s0_1215, s0_1216, s0_1217, s0_1218, s0_1221, s0_1222, s0_1223, s0_1224, s0_1225, s0_1226, s0_1227, s0_1228, s0_1229, s0_1230, s0_1231, s0_1232, s0_1233, s0_1234, s0_1235, s0_1236, s0_1237, s0_1240, s0_1397, s0_1400, zps_0, zps_1, zps_2, zps_3, zps_9, Option.bind_some, Option.bind_none, Int.reduceEq, Int.reduceNe, Int.reduceLT, Int.reduceLE, Int.reduceNeg, Int.reduceAdd, Int.reduceSub, Int.reduceMul, reduceIte, if_true, if_false, true_and, and_true, false_and, and_false, or_true, true_or, or_false, false_or, not_true_eq_false, not_false_eq_true, ite_not, z_b0, z_b1, z_b01, kGK0, kMK0, hL, f0, z1, f1, c1, z2, f2, c2, z3, f3, c3, z9, e1, e2, and_self, if_true, if_false]
theorem lw_33 : LwS 1245 := by
  intro R m S0 K L i hR hK0 hK hL hi0 hi hL2 hx
  obtain ⟨v, R1, m1, m2, e1, e2, e3, e4⟩ := top_sheet (R 0 (3 + (i + 1))) (R 0 (3 + (i + 2))) (R 0 (3 + (i + 3))) R m S0 K hR hK0 hK
  have z1 : zw (i + 1) = i + 1 := zw_i (by omega) (by omega)
  have f1 : R1 0 (3 + (i + 1)) = R 0 (3 + (i + 1)) := e4 _ (by omega) (by omega)
  have c1 : 0 ≤ i + 1 ∧ i + 1 < L := by omega
  have z2 : zw (i + 2) = i + 2 := zw_i (by omega) (by omega)
  have f2 : R1 0 (3 + (i + 2)) = R 0 (3 + (i + 2)) := e4 _ (by omega) (by omega)
  have c2 : 0 ≤ i + 2 ∧ i + 2 < L := by omega
  have z3 : zw (i + 3) = i + 3 := zw_i (by omega) (by omega)
  have f3 : R1 0 (3 + (i + 3)) = R 0 (3 + (i + 3)) := e4 _ (by omega) (by omega)
  have c3 : 0 ≤ i + 3 ∧ i + 3 < L := by omega
  have z9 : zw (i + 5) = i + 5 := zw_i (by omega) (by omega)
  have f0 : R1 0 2 = L := by rw [e4 2 (by decide) (by decide)]; exact hL
  refine ⟨R1, m2, ?_, e3, e4⟩
  simp only [s0_1245, s0_1246, s0_1247, s0_1248, s0_1249, s0_1250, s0_1251, s0_1252, s0_1253, s0_1254, s0_1255, s0_1256, s0_1257, s0_1258, s0_1259, s0_1260, s0_1261, s0_1264, s0_1265, s0_1266, s0_1267, s0_1268, s0_1269, s0_1270, s0_1271, s0_1272, s0_1273, s0_1274, s0_1275, s0_1276, s0_1277, s0_1278, s0_1279, s0_1280, s0_1283, s0_1397, s0_1400, zps_0, zps_1, zps_2, zps_3, zps_9, Option.bind_some, Option.bind_none, Int.reduceEq, Int.reduceNe, Int.reduceLT, Int.reduceLE, Int.reduceNeg, Int.reduceAdd, Int.reduceSub, Int.reduceMul, reduceIte, if_true, if_false, true_and, and_true, false_and, and_false, or_true, true_or, or_false, false_or, not_true_eq_false, not_false_eq_true, ite_not, z_b0, z_b1, z_b01, kGK0, kMK0, hL, f0, z1, f1, c1, z2, f2, c2, z3, f3, c3, z9, e1, e2, and_self, if_true, if_false]
theorem lw_34 : LwS 1288 := by
  intro R m S0 K L i hR hK0 hK hL hi0 hi hL2 hx
  obtain ⟨v, R1, m1, m2, e1, e2, e3, e4⟩ := top_lay (R 0 (3 + (i + 1))) (R 0 (3 + (i + 2))) (R 0 (3 + (i + 3))) R m S0 K hR hK0 hK
  have z1 : zw (i + 1) = i + 1 := zw_i (by omega) (by omega)
  have f1 : R1 0 (3 + (i + 1)) = R 0 (3 + (i + 1)) := e4 _ (by omega) (by omega)
  have c1 : 0 ≤ i + 1 ∧ i + 1 < L := by omega
  have z2 : zw (i + 2) = i + 2 := zw_i (by omega) (by omega)
  have f2 : R1 0 (3 + (i + 2)) = R 0 (3 + (i + 2)) := e4 _ (by omega) (by omega)
  have c2 : 0 ≤ i + 2 ∧ i + 2 < L := by omega
  have z3 : zw (i + 3) = i + 3 := zw_i (by omega) (by omega)
  have f3 : R1 0 (3 + (i + 3)) = R 0 (3 + (i + 3)) := e4 _ (by omega) (by omega)
  have c3 : 0 ≤ i + 3 ∧ i + 3 < L := by omega
  have z9 : zw (i + 5) = i + 5 := zw_i (by omega) (by omega)
  have f0 : R1 0 2 = L := by rw [e4 2 (by decide) (by decide)]; exact hL
  refine ⟨R1, m2, ?_, e3, e4⟩
  simp only [s0_1288, s0_1289, s0_1290, s0_1291, s0_1292, s0_1293, s0_1294, s0_1295, s0_1296, s0_1297, s0_1298, s0_1299, s0_1300, s0_1301, s0_1302, s0_1303, s0_1304, s0_1307, s0_1308, s0_1309, s0_1310, s0_1311, s0_1312, s0_1313, s0_1314, s0_1315, s0_1316, s0_1317, s0_1318, s0_1319, s0_1320, s0_1321, s0_1322, s0_1323, s0_1326, s0_1397, s0_1400, zps_0, zps_1, zps_2, zps_3, zps_9, Option.bind_some, Option.bind_none, Int.reduceEq, Int.reduceNe, Int.reduceLT, Int.reduceLE, Int.reduceNeg, Int.reduceAdd, Int.reduceSub, Int.reduceMul, reduceIte, if_true, if_false, true_and, and_true, false_and, and_false, or_true, true_or, or_false, false_or, not_true_eq_false, not_false_eq_true, ite_not, z_b0, z_b1, z_b01, kGK0, kMK0, hL, f0, z1, f1, c1, z2, f2, c2, z3, f3, c3, z9, e1, e2, and_self, if_true, if_false]
theorem lw_35 : LwS 1331 := by
  intro R m S0 K L i hR hK0 hK hL hi0 hi hL2 hx
  obtain ⟨v, R1, m1, m2, e1, e2, e3, e4⟩ := top_draw (R 0 (3 + (i + 1))) (R 0 (3 + (i + 2))) (R 0 (3 + (i + 3))) (by have := hx (3 + (i + 3)) (by omega); unfold zi32 at this; omega) R m S0 K hR hK0 hK
  have z1 : zw (i + 1) = i + 1 := zw_i (by omega) (by omega)
  have f1 : R1 0 (3 + (i + 1)) = R 0 (3 + (i + 1)) := e4 _ (by omega) (by omega)
  have c1 : 0 ≤ i + 1 ∧ i + 1 < L := by omega
  have z2 : zw (i + 2) = i + 2 := zw_i (by omega) (by omega)
  have f2 : R1 0 (3 + (i + 2)) = R 0 (3 + (i + 2)) := e4 _ (by omega) (by omega)
  have c2 : 0 ≤ i + 2 ∧ i + 2 < L := by omega
  have z3 : zw (i + 3) = i + 3 := zw_i (by omega) (by omega)
  have f3 : R1 0 (3 + (i + 3)) = R 0 (3 + (i + 3)) := e4 _ (by omega) (by omega)
  have c3 : 0 ≤ i + 3 ∧ i + 3 < L := by omega
  have z9 : zw (i + 5) = i + 5 := zw_i (by omega) (by omega)
  have f0 : R1 0 2 = L := by rw [e4 2 (by decide) (by decide)]; exact hL
  refine ⟨R1, m2, ?_, e3, e4⟩
  simp only [s0_1331, s0_1332, s0_1333, s0_1334, s0_1335, s0_1336, s0_1337, s0_1338, s0_1339, s0_1340, s0_1341, s0_1342, s0_1343, s0_1344, s0_1345, s0_1346, s0_1347, s0_1350, s0_1351, s0_1352, s0_1353, s0_1354, s0_1355, s0_1356, s0_1357, s0_1358, s0_1359, s0_1360, s0_1361, s0_1362, s0_1363, s0_1364, s0_1365, s0_1366, s0_1369, s0_1397, s0_1400, zps_0, zps_1, zps_2, zps_3, zps_9, Option.bind_some, Option.bind_none, Int.reduceEq, Int.reduceNe, Int.reduceLT, Int.reduceLE, Int.reduceNeg, Int.reduceAdd, Int.reduceSub, Int.reduceMul, reduceIte, if_true, if_false, true_and, and_true, false_and, and_false, or_true, true_or, or_false, false_or, not_true_eq_false, not_false_eq_true, ite_not, z_b0, z_b1, z_b01, kGK0, kMK0, hL, f0, z1, f1, c1, z2, f2, c2, z3, f3, c3, z9, e1, e2, and_self, if_true, if_false]
theorem lw_36 : LwS 1374 := by
  intro R m S0 K L i hR hK0 hK hL hi0 hi hL2 hx
  obtain ⟨v, R1, m1, m2, e1, e2, e3, e4⟩ := top_count (R 0 (3 + (i + 1))) R m S0 K hR hK0 hK
  have z1 : zw (i + 1) = i + 1 := zw_i (by omega) (by omega)
  have f1 : R1 0 (3 + (i + 1)) = R 0 (3 + (i + 1)) := e4 _ (by omega) (by omega)
  have c1 : 0 ≤ i + 1 ∧ i + 1 < L := by omega
  have z9 : zw (i + 5) = i + 5 := zw_i (by omega) (by omega)
  have f0 : R1 0 2 = L := by rw [e4 2 (by decide) (by decide)]; exact hL
  refine ⟨R1, m2, ?_, e3, e4⟩
  simp only [s0_1374, s0_1375, s0_1376, s0_1377, s0_1378, s0_1379, s0_1380, s0_1383, s0_1384, s0_1385, s0_1386, s0_1387, s0_1388, s0_1389, s0_1392, s0_1397, s0_1400, zps_0, zps_1, zps_2, zps_3, zps_9, Option.bind_some, Option.bind_none, Int.reduceEq, Int.reduceNe, Int.reduceLT, Int.reduceLE, Int.reduceNeg, Int.reduceAdd, Int.reduceSub, Int.reduceMul, reduceIte, if_true, if_false, true_and, and_true, false_and, and_false, or_true, true_or, or_false, false_or, not_true_eq_false, not_false_eq_true, ite_not, z_b0, z_b1, z_b01, kGK0, kMK0, hL, f0, z1, f1, c1, z9, e1, e2, and_self, if_true, if_false]
theorem lw_no : LwS 1397 := by
  intro R m S0 K L i hR hK0 hK hL hi0 hi hL2 hx
  have z9 : zw (i + 5) = i + 5 := zw_i (by omega) (by omega)
  refine ⟨R, m, ?_, Rel_K hR (by omega), fun _ _ _ => rfl⟩
  simp only [s0_1397, s0_1400, zps_0, zps_1, zps_2, zps_3, zps_9, Option.bind_some, Option.bind_none, Int.reduceEq, Int.reduceNe, Int.reduceLT, Int.reduceLE, Int.reduceNeg, Int.reduceAdd, Int.reduceSub, Int.reduceMul, reduceIte, if_true, if_false, true_and, and_true, false_and, and_false, or_true, true_or, or_false, false_or, not_true_eq_false, not_false_eq_true, ite_not, z_b0, z_b1, z_b01, z9]
/-- the choice of the call -/
theorem lw_sw (c : Int) {R m : zM} {S0 K L i : Int} (hR : Rel R m S0 K) (hK0 : 0 ≤ K) (hK : K < 512) (hL : R 0 2 = L) (hi0 : 0 ≤ i) (hi : i + 5 ≤ L) (hL2 : L ≤ 2560) (hx : ∀ k, 2 ≤ k → zi32 (R 0 k)) : ∃ R' m', ev 0 32 [(4, 0), (2, 1), (2, 100), (0, i)] [(0, c)] R m = ev 0 18 [(4, 0), (2, 1), (2, 100), (0, i + 5)] [] R' m' ∧ Rel R' m' S0 (K + 1) ∧ ∀ k, k ≠ 0 → k ≠ 1 → R' 0 k = R 0 k := by
  rw [s0_32]
  by_cases h0 : c = 0
  · rw [if_pos h0]; exact lw_0 R m S0 K L i hR hK0 hK hL hi0 hi hL2 hx
  rw [if_neg h0]
  by_cases h1 : c = 1
  · rw [if_pos h1]; exact lw_1 R m S0 K L i hR hK0 hK hL hi0 hi hL2 hx
  rw [if_neg h1]
  by_cases h2 : c = 2
  · rw [if_pos h2]; exact lw_2 R m S0 K L i hR hK0 hK hL hi0 hi hL2 hx
  rw [if_neg h2]
  by_cases h3 : c = 3
  · rw [if_pos h3]; exact lw_3 R m S0 K L i hR hK0 hK hL hi0 hi hL2 hx
  rw [if_neg h3]
  by_cases h4 : c = 4
  · rw [if_pos h4]; exact lw_4 R m S0 K L i hR hK0 hK hL hi0 hi hL2 hx
  rw [if_neg h4]
  by_cases h5 : c = 5
  · rw [if_pos h5]; exact lw_5 R m S0 K L i hR hK0 hK hL hi0 hi hL2 hx
  rw [if_neg h5]
  by_cases h6 : c = 6
  · rw [if_pos h6]; exact lw_6 R m S0 K L i hR hK0 hK hL hi0 hi hL2 hx
  rw [if_neg h6]
  by_cases h7 : c = 7
  · rw [if_pos h7]; exact lw_7 R m S0 K L i hR hK0 hK hL hi0 hi hL2 hx
  rw [if_neg h7]
  by_cases h8 : c = 8
  · rw [if_pos h8]; exact lw_8 R m S0 K L i hR hK0 hK hL hi0 hi hL2 hx
  rw [if_neg h8]
  by_cases h9 : c = 9
  · rw [if_pos h9]; exact lw_9 R m S0 K L i hR hK0 hK hL hi0 hi hL2 hx
  rw [if_neg h9]
  by_cases h10 : c = 10
  · rw [if_pos h10]; exact lw_10 R m S0 K L i hR hK0 hK hL hi0 hi hL2 hx
  rw [if_neg h10]
  by_cases h11 : c = 11
  · rw [if_pos h11]; exact lw_11 R m S0 K L i hR hK0 hK hL hi0 hi hL2 hx
  rw [if_neg h11]
  by_cases h12 : c = 12
  · rw [if_pos h12]; exact lw_12 R m S0 K L i hR hK0 hK hL hi0 hi hL2 hx
  rw [if_neg h12]
  by_cases h13 : c = 13
  · rw [if_pos h13]; exact lw_13 R m S0 K L i hR hK0 hK hL hi0 hi hL2 hx
  rw [if_neg h13]
  by_cases h14 : c = 14
  · rw [if_pos h14]; exact lw_14 R m S0 K L i hR hK0 hK hL hi0 hi hL2 hx
  rw [if_neg h14]
  by_cases h15 : c = 15
  · rw [if_pos h15]; exact lw_15 R m S0 K L i hR hK0 hK hL hi0 hi hL2 hx
  rw [if_neg h15]
  by_cases h16 : c = 16
  · rw [if_pos h16]; exact lw_16 R m S0 K L i hR hK0 hK hL hi0 hi hL2 hx
  rw [if_neg h16]
  by_cases h17 : c = 17
  · rw [if_pos h17]; exact lw_17 R m S0 K L i hR hK0 hK hL hi0 hi hL2 hx
  rw [if_neg h17]
  by_cases h18 : c = 18
  · rw [if_pos h18]; exact lw_18 R m S0 K L i hR hK0 hK hL hi0 hi hL2 hx
  rw [if_neg h18]
  by_cases h19 : c = 19
  · rw [if_pos h19]; exact lw_19 R m S0 K L i hR hK0 hK hL hi0 hi hL2 hx
  rw [if_neg h19]
  by_cases h20 : c = 20
  · rw [if_pos h20]; exact lw_20 R m S0 K L i hR hK0 hK hL hi0 hi hL2 hx
  rw [if_neg h20]
  by_cases h21 : c = 21
  · rw [if_pos h21]; exact lw_21 R m S0 K L i hR hK0 hK hL hi0 hi hL2 hx
  rw [if_neg h21]
  by_cases h22 : c = 22
  · rw [if_pos h22]; exact lw_22 R m S0 K L i hR hK0 hK hL hi0 hi hL2 hx
  rw [if_neg h22]
  by_cases h23 : c = 23
  · rw [if_pos h23]; exact lw_23 R m S0 K L i hR hK0 hK hL hi0 hi hL2 hx
  rw [if_neg h23]
  by_cases h24 : c = 24
  · rw [if_pos h24]; exact lw_24 R m S0 K L i hR hK0 hK hL hi0 hi hL2 hx
  rw [if_neg h24]
  by_cases h25 : c = 25
  · rw [if_pos h25]; exact lw_25 R m S0 K L i hR hK0 hK hL hi0 hi hL2 hx
  rw [if_neg h25]
  by_cases h26 : c = 26
  · rw [if_pos h26]; exact lw_26 R m S0 K L i hR hK0 hK hL hi0 hi hL2 hx
  rw [if_neg h26]
  by_cases h27 : c = 27
  · rw [if_pos h27]; exact lw_27 R m S0 K L i hR hK0 hK hL hi0 hi hL2 hx
  rw [if_neg h27]
  by_cases h28 : c = 28
  · rw [if_pos h28]; exact lw_28 R m S0 K L i hR hK0 hK hL hi0 hi hL2 hx
  rw [if_neg h28]
  by_cases h29 : c = 29
  · rw [if_pos h29]; exact lw_29 R m S0 K L i hR hK0 hK hL hi0 hi hL2 hx
  rw [if_neg h29]
  by_cases h30 : c = 30
  · rw [if_pos h30]; exact lw_30 R m S0 K L i hR hK0 hK hL hi0 hi hL2 hx
  rw [if_neg h30]
  by_cases h31 : c = 31
  · rw [if_pos h31]; exact lw_31 R m S0 K L i hR hK0 hK hL hi0 hi hL2 hx
  rw [if_neg h31]
  by_cases h32 : c = 32
  · rw [if_pos h32]; exact lw_32 R m S0 K L i hR hK0 hK hL hi0 hi hL2 hx
  rw [if_neg h32]
  by_cases h33 : c = 33
  · rw [if_pos h33]; exact lw_33 R m S0 K L i hR hK0 hK hL hi0 hi hL2 hx
  rw [if_neg h33]
  by_cases h34 : c = 34
  · rw [if_pos h34]; exact lw_34 R m S0 K L i hR hK0 hK hL hi0 hi hL2 hx
  rw [if_neg h34]
  by_cases h35 : c = 35
  · rw [if_pos h35]; exact lw_35 R m S0 K L i hR hK0 hK hL hi0 hi hL2 hx
  rw [if_neg h35]
  by_cases h36 : c = 36
  · rw [if_pos h36]; exact lw_36 R m S0 K L i hR hK0 hK hL hi0 hi hL2 hx
  rw [if_neg h36]
  exact lw_no R m S0 K L i hR hK0 hK hL hi0 hi hL2 hx
theorem lw_loop {S0 L : Int} (hL2 : L ≤ 2560) (n : Nat) : ∀ (R m : zM) (K i : Int), (L - i).toNat ≤ n → i = 5 * K → 0 ≤ K → i ≤ L → Rel R m S0 K → R 0 2 = L → (∀ k, 2 ≤ k → zi32 (R 0 k)) → ∃ R' m', ev 0 18 [(4, 0), (2, 1), (2, 100), (0, i)] [] R m = some ((0, 1), R', m') ∧ RT R' S0 := by
  induction n with
  | zero =>
    intro R m K i hn hi hK hiL hR hL hx
    have z1 : zw (L - 5) = L - 5 := zw_i (by omega) (by omega)
    have c1 : L - 5 < i := by omega
    refine ⟨R, m, ?_, hR.1⟩
    simp only [s0_18, s0_19, s0_20, s0_21, s0_22, s0_23, s0_1403, s0_1404, zps_0, zps_1, zps_2, zps_3, zps_9, Option.bind_some, Option.bind_none, Int.reduceEq, Int.reduceNe, Int.reduceLT, Int.reduceLE, Int.reduceNeg, Int.reduceAdd, Int.reduceSub, Int.reduceMul, reduceIte, if_true, if_false, true_and, and_true, false_and, and_false, or_true, true_or, or_false, false_or, not_true_eq_false, not_false_eq_true, ite_not, z_b0, z_b1, z_b01, hL, z1, c1, if_true]
  | succ n ih =>
    intro R m K i hn hi hK hiL hR hL hx
    have z1 : zw (L - 5) = L - 5 := zw_i (by omega) (by omega)
    by_cases c1 : L - 5 < i
    · refine ⟨R, m, ?_, hR.1⟩
      simp only [s0_18, s0_19, s0_20, s0_21, s0_22, s0_23, s0_1403, s0_1404, zps_0, zps_1, zps_2, zps_3, zps_9, Option.bind_some, Option.bind_none, Int.reduceEq, Int.reduceNe, Int.reduceLT, Int.reduceLE, Int.reduceNeg, Int.reduceAdd, Int.reduceSub, Int.reduceMul, reduceIte, if_true, if_false, true_and, and_true, false_and, and_false, or_true, true_or, or_false, false_or, not_true_eq_false, not_false_eq_true, ite_not, z_b0, z_b1, z_b01, hL, z1, c1, if_true]
    · have c2 : 0 ≤ i ∧ i < L := by omega
      obtain ⟨R1, m1, e1, e2, e3⟩ := lw_sw (i := i) (L := L) (z32 (· &&& ·) (R 0 (3 + i)) 63) hR hK (by omega) hL (by omega) (by omega) hL2 hx
      obtain ⟨R2, m2, g1, g2⟩ := ih R1 m1 (K + 1) (i + 5) (by omega) (by omega) (by omega) (by omega) e2 (by rw [e3 2 (by decide) (by decide)]; exact hL) (fun k hk => by rw [e3 k (by omega) (by omega)]; exact hx k hk)
      refine ⟨R2, m2, ?_, g2⟩
      rw [← g1, ← e1]
      simp only [s0_18, s0_19, s0_20, s0_21, s0_22, s0_23, s0_26, s0_27, s0_28, s0_29, s0_31, zps_0, zps_1, zps_2, zps_3, zps_9, Option.bind_some, Option.bind_none, Int.reduceEq, Int.reduceNe, Int.reduceLT, Int.reduceLE, Int.reduceNeg, Int.reduceAdd, Int.reduceSub, Int.reduceMul, reduceIte, if_true, if_false, true_and, and_true, false_and, and_false, or_true, true_or, or_false, false_or, not_true_eq_false, not_false_eq_true, ite_not, z_b0, z_b1, z_b01, hL, z1, c1, c2, and_self, if_true, if_false]
/-- the law's whole course -/
theorem lw_all {R m : zM} {L : Int} (h0 : R 0 0 = 0) (h1 : R 0 1 = 0) (h2 : R 0 2 = L) (hL : 0 ≤ L ∧ L ≤ 2560) (hx : ∀ k, 2 ≤ k → zi32 (R 0 k)) (hm : ∀ b, m b = fun _ => 0) : ∃ R' m', ev 0 0 [(4, 0), (9, 0), (9, 0), (9, 0)] [] R m = some ((0, 1), R', m') ∧ RT R' 22316 := by
  obtain ⟨R1, m1, e1, e2, e3⟩ := law_start h0 h1 h2 hm
  obtain ⟨R2, m2, g1, g2⟩ := lw_loop (S0 := 22316) hL.2 (L - 0).toNat R1 m1 0 0 (Nat.le_refl _) rfl (by omega) hL.1 e2 (by rw [e3 2 (by decide) (by decide)]; exact h2) (fun k hk => by rw [e3 k (by omega) (by omega)]; exact hx k hk)
  exact ⟨R2, m2, by rw [e1, g1], g2⟩
