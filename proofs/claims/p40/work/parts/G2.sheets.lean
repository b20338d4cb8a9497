/-! sheets -/
section SHEETS
variable {R m : zM} {k i : Int}
theorem tz_shsize (hCK : CK R) (k : Int) : ev 108 0 [(2, 96), (0, k)] [] R m = some ((0, if 0 ≤ k ∧ k ≤ 3 then m 97 k else -1), R, m) := by
  have W := tz_within k 0 3 R m
  by_cases c : 0 ≤ k ∧ k ≤ 3
  · rw [if_pos c] at W ⊢
    have c2 : 0 ≤ k ∧ k < 4 := by omega
    simp only [s108_0, s108_1, s108_2, s108_3, s108_6, s108_9, s108_10, s108_13, s108_14, s108_15, s108_18, s108_19, zps_0, zps_1, zps_2, zps_3, zps_9, Option.bind_some, Option.bind_none, Int.reduceEq, Int.reduceNe, Int.reduceLT, Int.reduceLE, Int.reduceNeg, Int.reduceAdd, Int.reduceSub, Int.reduceMul, reduceIte, if_true, if_false, true_and, and_true, false_and, and_false, or_true, true_or, or_false, false_or, not_true_eq_false, not_false_eq_true, ite_not, z_b0, z_b1, z_b01, rCK0 hCK, rCK1 hCK, rCK2 hCK, kCK0, kCK1, kCK2, kCK3, kCK4, kCK5, kCK6, W, c2, and_self, if_true]
  · rw [if_neg c] at W ⊢
    simp only [s108_0, s108_1, s108_2, s108_3, s108_6, s108_9, s108_10, s108_13, s108_14, s108_15, s108_18, s108_19, zps_0, zps_1, zps_2, zps_3, zps_9, Option.bind_some, Option.bind_none, Int.reduceEq, Int.reduceNe, Int.reduceLT, Int.reduceLE, Int.reduceNeg, Int.reduceAdd, Int.reduceSub, Int.reduceMul, reduceIte, if_true, if_false, true_and, and_true, false_and, and_false, or_true, true_or, or_false, false_or, not_true_eq_false, not_false_eq_true, ite_not, z_b0, z_b1, z_b01, rCK0 hCK, rCK1 hCK, rCK2 hCK, kCK0, kCK1, kCK2, kCK3, kCK4, kCK5, kCK6, W]
theorem tz_shnoth (hCK : CK R) (hk : 0 ≤ k ∧ k ≤ 3) : ev 107 0 [(2, 96), (0, k)] [] R m = some ((0, if m 97 k = -1 then 1 else 0), R, m) := by
  have S := tz_shsize (m := m) hCK k
  rw [if_pos hk] at S
  by_cases c : m 97 k = -1
  · simp only [s107_0, s107_1, s107_2, s107_5, s107_6, s107_9, s107_10, s107_13, s107_14, zps_0, zps_1, zps_2, zps_3, zps_9, Option.bind_some, Option.bind_none, Int.reduceEq, Int.reduceNe, Int.reduceLT, Int.reduceLE, Int.reduceNeg, Int.reduceAdd, Int.reduceSub, Int.reduceMul, reduceIte, if_true, if_false, true_and, and_true, false_and, and_false, or_true, true_or, or_false, false_or, not_true_eq_false, not_false_eq_true, ite_not, z_b0, z_b1, z_b01, rCK0 hCK, rCK1 hCK, rCK2 hCK, kCK0, kCK1, kCK2, kCK3, kCK4, kCK5, kCK6, S, c, if_true]
  · simp only [s107_0, s107_1, s107_2, s107_5, s107_6, s107_9, s107_10, s107_13, s107_14, zps_0, zps_1, zps_2, zps_3, zps_9, Option.bind_some, Option.bind_none, Int.reduceEq, Int.reduceNe, Int.reduceLT, Int.reduceLE, Int.reduceNeg, Int.reduceAdd, Int.reduceSub, Int.reduceMul, reduceIte, if_true, if_false, true_and, and_true, false_and, and_false, or_true, true_or, or_false, false_or, not_true_eq_false, not_false_eq_true, ite_not, z_b0, z_b1, z_b01, rCK0 hCK, rCK1 hCK, rCK2 hCK, kCK0, kCK1, kCK2, kCK3, kCK4, kCK5, kCK6, S, c, if_false]
end SHEETS
