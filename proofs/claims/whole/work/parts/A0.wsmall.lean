/-! the class's ways: small things, the nearest place -/
def cSp (m : zM) (a : Int) : Int := if (0 ≤ a ∧ a < 24) ∧ a % 6 < m 72 (a / 6) then m 71 a else -4
def cNs (m : zM) (a b : Int) : Int := if (0 ≤ a ∧ a < 24) ∧ 0 ≤ a % 6 + b ∧ a % 6 + b < m 72 (a / 6) then a + b else -1
section WSMALL
variable {R m : zM}
theorem tz_timeFrom (hWK : WK R) (s : Int) : ev 158 0 [(2, 70), (0, s)] [] R m = some ((0, if 0 ≤ s ∧ s < 88 then m 76 s else 1000000), R, m) := by
  simp only [s158_0, s158_1, s158_4, s158_5, s158_7, s158_10, s158_11, s158_14, s158_15, s158_16, s158_19, s158_21, zps_0, zps_1, zps_2, zps_3, zps_9, Option.bind_some, Option.bind_none, Int.reduceEq, Int.reduceNe, Int.reduceLT, Int.reduceLE, Int.reduceNeg, Int.reduceAdd, Int.reduceSub, Int.reduceMul, reduceIte, if_true, if_false, true_and, and_true, false_and, and_false, or_true, true_or, or_false, false_or, not_true_eq_false, not_false_eq_true, ite_not, z_b0, z_b1, z_b01, rWK0 hWK, rWK1 hWK, rWK2 hWK, rWK3 hWK, rWK4 hWK, rWK5 hWK, rWK6 hWK, rWK7 hWK, rWK8 hWK, kWK0, kWK1, kWK2, kWK3, kWK4, kWK5, kWK6, kWK7, kWK8, kWK9, kWK10, kWK11, kWK12, kWK13, kWK14, kWK15, kWK16]
  (repeat' split) <;> first | rfl | (exfalso; omega)
theorem tz_reaches (hWK : WK R) (s : Int) : ev 164 0 [(2, 70), (0, s)] [] R m = some ((0, if (if 0 ≤ s ∧ s < 88 then m 76 s else 1000000) < 1000000 then 1 else 0), R, m) := by
  have T := tz_timeFrom (m := m) hWK s
  generalize (if 0 ≤ s ∧ s < 88 then m 76 s else 1000000) = x at *
  simp only [s164_0, s164_1, s164_2, s164_5, s164_7, s164_10, s164_11, s164_14, s164_15, zps_0, zps_1, zps_2, zps_3, zps_9, Option.bind_some, Option.bind_none, Int.reduceEq, Int.reduceNe, Int.reduceLT, Int.reduceLE, Int.reduceNeg, Int.reduceAdd, Int.reduceSub, Int.reduceMul, reduceIte, if_true, if_false, true_and, and_true, false_and, and_false, or_true, true_or, or_false, false_or, not_true_eq_false, not_false_eq_true, ite_not, z_b0, z_b1, z_b01, rWK0 hWK, rWK1 hWK, rWK2 hWK, rWK3 hWK, rWK4 hWK, rWK5 hWK, rWK6 hWK, rWK7 hWK, rWK8 hWK, kWK0, kWK1, kWK2, kWK3, kWK4, kWK5, kWK6, kWK7, kWK8, kWK9, kWK10, kWK11, kWK12, kWK13, kWK14, kWK15, kWK16, T]
  (repeat' split) <;> first | rfl | (exfalso; omega)
theorem tz_stepEnd (hWK : WK R) {p d : Int} (hp : 0 ≤ p ∧ p < 64) (hd : 0 ≤ d ∧ d < 4) : ev 159 0 [(2, 70), (0, p), (0, d)] [] R m = some ((0, m 73 (4 * p + d)), R, m) := by
  have z1 : zw (p * 4) = p * 4 := zw_i (by omega) (by omega)
  have z2 : zw (p * 4 + d) = 4 * p + d := by rw [zw_i (by omega) (by omega)]; omega
  have c1 : 0 ≤ p := hp.1
  have c2 : ¬ 64 ≤ p := by omega
  have c3 : 0 ≤ d := hd.1
  have c4 : ¬ 4 ≤ d := by omega
  have c5 : 0 ≤ 4 * p + d ∧ 4 * p + d < 256 := by omega
  have c6 : ¬ p < 0 := by omega
  have c7 : ¬ d < 0 := by omega
  have c8 : p < 64 := hp.2
  have c9 : d < 4 := hd.2
  simp only [s159_0, s159_1, s159_4, s159_5, s159_7, s159_10, s159_11, s159_14, s159_15, s159_16, s159_19, s159_20, s159_23, s159_24, s159_25, s159_26, s159_27, s159_28, s159_29, s159_32, s159_33, zps_0, zps_1, zps_2, zps_3, zps_9, Option.bind_some, Option.bind_none, Int.reduceEq, Int.reduceNe, Int.reduceLT, Int.reduceLE, Int.reduceNeg, Int.reduceAdd, Int.reduceSub, Int.reduceMul, reduceIte, if_true, if_false, true_and, and_true, false_and, and_false, or_true, true_or, or_false, false_or, not_true_eq_false, not_false_eq_true, ite_not, z_b0, z_b1, z_b01, rWK0 hWK, rWK1 hWK, rWK2 hWK, rWK3 hWK, rWK4 hWK, rWK5 hWK, rWK6 hWK, rWK7 hWK, rWK8 hWK, kWK0, kWK1, kWK2, kWK3, kWK4, kWK5, kWK6, kWK7, kWK8, kWK9, kWK10, kWK11, kWK12, kWK13, kWK14, kWK15, kWK16, c1, c2, c3, c4, c5, c6, c7, c8, c9, z1, z2, and_self, if_true, if_false]
theorem tz_stepTime (hWK : WK R) {p d : Int} (hp : 0 ≤ p ∧ p < 64) (hd : 0 ≤ d ∧ d < 4) (hb : 0 ≤ m 74 (4 * p + d) ∧ m 74 (4 * p + d) ≤ 1000000) (hc : 0 ≤ m 75 (4 * p + d) ∧ m 75 (4 * p + d) ≤ 1000) : ev 160 0 [(2, 70), (0, p), (0, d), (9, 0)] [] R m = some ((0, if m 70 10 ≠ 0 then m 74 (4 * p + d) + 2 * m 75 (4 * p + d) else m 74 (4 * p + d)), R, m) := by
  have z1 : zw (p * 4) = p * 4 := zw_i (by omega) (by omega)
  have z2 : zw (p * 4 + d) = 4 * p + d := by rw [zw_i (by omega) (by omega)]; omega
  have z3 : zw (2 * m 75 (4 * p + d)) = 2 * m 75 (4 * p + d) := zw_i (by omega) (by omega)
  have z4 : zw (m 74 (4 * p + d) + 2 * m 75 (4 * p + d)) = m 74 (4 * p + d) + 2 * m 75 (4 * p + d) := zw_i (by omega) (by omega)
  have c1 : 0 ≤ p := hp.1
  have c2 : ¬ 64 ≤ p := by omega
  have c3 : 0 ≤ d := hd.1
  have c4 : ¬ 4 ≤ d := by omega
  have c5 : 0 ≤ 4 * p + d ∧ 4 * p + d < 256 := by omega
  have c6 : ¬ p < 0 := by omega
  have c7 : ¬ d < 0 := by omega
  have c8 : p < 64 := hp.2
  have c9 : d < 4 := hd.2
  by_cases f : m 70 10 = 0
  · simp only [s160_0, s160_1, s160_4, s160_5, s160_7, s160_10, s160_11, s160_14, s160_15, s160_16, s160_19, s160_21, s160_22, s160_23, s160_24, s160_25, s160_26, s160_27, s160_28, s160_29, s160_32, s160_35, s160_36, s160_39, s160_40, s160_41, s160_42, s160_43, s160_46, s160_47, s160_48, s160_49, s160_50, s160_53, s160_54, s160_57, s160_58, s160_59, zps_0, zps_1, zps_2, zps_3, zps_9, Option.bind_some, Option.bind_none, Int.reduceEq, Int.reduceNe, Int.reduceLT, Int.reduceLE, Int.reduceNeg, Int.reduceAdd, Int.reduceSub, Int.reduceMul, reduceIte, if_true, if_false, true_and, and_true, false_and, and_false, or_true, true_or, or_false, false_or, not_true_eq_false, not_false_eq_true, ite_not, z_b0, z_b1, z_b01, rWK0 hWK, rWK1 hWK, rWK2 hWK, rWK3 hWK, rWK4 hWK, rWK5 hWK, rWK6 hWK, rWK7 hWK, rWK8 hWK, kWK0, kWK1, kWK2, kWK3, kWK4, kWK5, kWK6, kWK7, kWK8, kWK9, kWK10, kWK11, kWK12, kWK13, kWK14, kWK15, kWK16, c1, c2, c3, c4, c5, c6, c7, c8, c9, z1, z2, f, ne_eq, not_true_eq_false, and_self, if_true, if_false]
  · simp only [s160_0, s160_1, s160_4, s160_5, s160_7, s160_10, s160_11, s160_14, s160_15, s160_16, s160_19, s160_21, s160_22, s160_23, s160_24, s160_25, s160_26, s160_27, s160_28, s160_29, s160_32, s160_35, s160_36, s160_39, s160_40, s160_41, s160_42, s160_43, s160_46, s160_47, s160_48, s160_49, s160_50, s160_53, s160_54, s160_57, s160_58, s160_59, zps_0, zps_1, zps_2, zps_3, zps_9, Option.bind_some, Option.bind_none, Int.reduceEq, Int.reduceNe, Int.reduceLT, Int.reduceLE, Int.reduceNeg, Int.reduceAdd, Int.reduceSub, Int.reduceMul, reduceIte, if_true, if_false, true_and, and_true, false_and, and_false, or_true, true_or, or_false, false_or, not_true_eq_false, not_false_eq_true, ite_not, z_b0, z_b1, z_b01, rWK0 hWK, rWK1 hWK, rWK2 hWK, rWK3 hWK, rWK4 hWK, rWK5 hWK, rWK6 hWK, rWK7 hWK, rWK8 hWK, kWK0, kWK1, kWK2, kWK3, kWK4, kWK5, kWK6, kWK7, kWK8, kWK9, kWK10, kWK11, kWK12, kWK13, kWK14, kWK15, kWK16, c1, c2, c3, c4, c5, c6, c7, c8, c9, z1, z2, z3, z4, f, ne_eq, not_false_eq_true, and_self, if_true, if_false]
theorem tz_shorten (hWK : WK R) (s t : Int) : ev 161 0 [(2, 70), (0, s), (0, t)] [] R m = some ((9, 0), R, if (0 ≤ s ∧ s < 88) ∧ t < m 76 s then zpr m 76 (zrw (m 76) s t) else m) := by
  by_cases c : 0 ≤ s ∧ s < 88
  · have c1 : 0 ≤ s := c.1
    have c2 : ¬ 88 ≤ s := by omega
    have c3 : ¬ s < 0 := by omega
    have c4 : s < 88 := c.2
    by_cases d : t < m 76 s
    · have d' : ¬ m 76 s ≤ t := by omega
      rw [if_pos ⟨c, d⟩]
      simp only [s161_0, s161_1, s161_4, s161_5, s161_7, s161_10, s161_11, s161_12, s161_15, s161_16, s161_17, s161_20, s161_21, s161_24, s161_25, s161_26, s161_27, zps_0, zps_1, zps_2, zps_3, zps_9, Option.bind_some, Option.bind_none, Int.reduceEq, Int.reduceNe, Int.reduceLT, Int.reduceLE, Int.reduceNeg, Int.reduceAdd, Int.reduceSub, Int.reduceMul, reduceIte, if_true, if_false, true_and, and_true, false_and, and_false, or_true, true_or, or_false, false_or, not_true_eq_false, not_false_eq_true, ite_not, z_b0, z_b1, z_b01, rWK0 hWK, rWK1 hWK, rWK2 hWK, rWK3 hWK, rWK4 hWK, rWK5 hWK, rWK6 hWK, rWK7 hWK, rWK8 hWK, kWK0, kWK1, kWK2, kWK3, kWK4, kWK5, kWK6, kWK7, kWK8, kWK9, kWK10, kWK11, kWK12, kWK13, kWK14, kWK15, kWK16, c1, c2, c3, c4, d, d', and_self, if_true, if_false, zup_zpr]
    · have d' : m 76 s ≤ t := by omega
      rw [if_neg (fun q => d q.2)]
      simp only [s161_0, s161_1, s161_4, s161_5, s161_7, s161_10, s161_11, s161_12, s161_15, s161_16, s161_17, s161_20, s161_21, s161_24, s161_25, s161_26, s161_27, zps_0, zps_1, zps_2, zps_3, zps_9, Option.bind_some, Option.bind_none, Int.reduceEq, Int.reduceNe, Int.reduceLT, Int.reduceLE, Int.reduceNeg, Int.reduceAdd, Int.reduceSub, Int.reduceMul, reduceIte, if_true, if_false, true_and, and_true, false_and, and_false, or_true, true_or, or_false, false_or, not_true_eq_false, not_false_eq_true, ite_not, z_b0, z_b1, z_b01, rWK0 hWK, rWK1 hWK, rWK2 hWK, rWK3 hWK, rWK4 hWK, rWK5 hWK, rWK6 hWK, rWK7 hWK, rWK8 hWK, kWK0, kWK1, kWK2, kWK3, kWK4, kWK5, kWK6, kWK7, kWK8, kWK9, kWK10, kWK11, kWK12, kWK13, kWK14, kWK15, kWK16, c1, c2, c3, c4, d, d', and_self, if_true, if_false]
  · rw [if_neg (fun q => c q.1)]
    by_cases e : 0 ≤ s
    · have c2 : 88 ≤ s := by omega
      have c3 : ¬ s < 0 := by omega
      have c4 : ¬ s < 88 := by omega
      simp only [s161_0, s161_1, s161_4, s161_5, s161_7, s161_10, s161_11, s161_12, s161_15, s161_16, s161_17, s161_20, s161_21, s161_24, s161_25, s161_26, s161_27, zps_0, zps_1, zps_2, zps_3, zps_9, Option.bind_some, Option.bind_none, Int.reduceEq, Int.reduceNe, Int.reduceLT, Int.reduceLE, Int.reduceNeg, Int.reduceAdd, Int.reduceSub, Int.reduceMul, reduceIte, if_true, if_false, true_and, and_true, false_and, and_false, or_true, true_or, or_false, false_or, not_true_eq_false, not_false_eq_true, ite_not, z_b0, z_b1, z_b01, rWK0 hWK, rWK1 hWK, rWK2 hWK, rWK3 hWK, rWK4 hWK, rWK5 hWK, rWK6 hWK, rWK7 hWK, rWK8 hWK, kWK0, kWK1, kWK2, kWK3, kWK4, kWK5, kWK6, kWK7, kWK8, kWK9, kWK10, kWK11, kWK12, kWK13, kWK14, kWK15, kWK16, e, c2, c3, c4, if_true, if_false]
    · have c3 : s < 0 := by omega
      simp only [s161_0, s161_1, s161_4, s161_5, s161_7, s161_10, s161_11, s161_12, s161_15, s161_16, s161_17, s161_20, s161_21, s161_24, s161_25, s161_26, s161_27, zps_0, zps_1, zps_2, zps_3, zps_9, Option.bind_some, Option.bind_none, Int.reduceEq, Int.reduceNe, Int.reduceLT, Int.reduceLE, Int.reduceNeg, Int.reduceAdd, Int.reduceSub, Int.reduceMul, reduceIte, if_true, if_false, true_and, and_true, false_and, and_false, or_true, true_or, or_false, false_or, not_true_eq_false, not_false_eq_true, ite_not, z_b0, z_b1, z_b01, rWK0 hWK, rWK1 hWK, rWK2 hWK, rWK3 hWK, rWK4 hWK, rWK5 hWK, rWK6 hWK, rWK7 hWK, rWK8 hWK, kWK0, kWK1, kWK2, kWK3, kWK4, kWK5, kWK6, kWK7, kWK8, kWK9, kWK10, kWK11, kWK12, kWK13, kWK14, kWK15, kWK16, e, c3, if_true, if_false]
theorem tz_stopPlot (hWK : WK R) (a : Int) : ev 152 0 [(2, 70), (0, a)] [] R m = some ((0, cSp m a), R, m) := by
  unfold cSp
  by_cases c : 0 ≤ a ∧ a < 24
  · have c1 : 0 ≤ a := c.1
    have c2 : ¬ 24 ≤ a := by omega
    have c3 : ¬ a < 0 := by omega
    have c4 : a < 24 := c.2
    have d6 := z_div (a := a) (b := 6) (by omega) (by omega) (by omega) (by omega)
    have m6 := z_rem (a := a) (b := 6) (by omega) (by omega) (by omega) (by omega)
    have c5 : 0 ≤ a / 6 ∧ a / 6 < 4 := by omega
    by_cases d : a % 6 < m 72 (a / 6)
    · have d' : ¬ m 72 (a / 6) ≤ a % 6 := by omega
      rw [if_pos ⟨c, d⟩]
      simp only [s152_0, s152_1, s152_4, s152_5, s152_7, s152_10, s152_11, s152_13, s152_14, s152_15, s152_18, s152_19, s152_21, s152_22, s152_23, s152_26, s152_27, s152_30, s152_31, s152_32, s152_35, s152_37, zps_0, zps_1, zps_2, zps_3, zps_9, Option.bind_some, Option.bind_none, Int.reduceEq, Int.reduceNe, Int.reduceLT, Int.reduceLE, Int.reduceNeg, Int.reduceAdd, Int.reduceSub, Int.reduceMul, reduceIte, if_true, if_false, true_and, and_true, false_and, and_false, or_true, true_or, or_false, false_or, not_true_eq_false, not_false_eq_true, ite_not, z_b0, z_b1, z_b01, rWK0 hWK, rWK1 hWK, rWK2 hWK, rWK3 hWK, rWK4 hWK, rWK5 hWK, rWK6 hWK, rWK7 hWK, rWK8 hWK, kWK0, kWK1, kWK2, kWK3, kWK4, kWK5, kWK6, kWK7, kWK8, kWK9, kWK10, kWK11, kWK12, kWK13, kWK14, kWK15, kWK16, c1, c2, c3, c4, d6, m6, c5, d, d', and_self, if_true, if_false]
    · have d' : m 72 (a / 6) ≤ a % 6 := by omega
      rw [if_neg (fun q => d q.2)]
      simp only [s152_0, s152_1, s152_4, s152_5, s152_7, s152_10, s152_11, s152_13, s152_14, s152_15, s152_18, s152_19, s152_21, s152_22, s152_23, s152_26, s152_27, s152_30, s152_31, s152_32, s152_35, s152_37, zps_0, zps_1, zps_2, zps_3, zps_9, Option.bind_some, Option.bind_none, Int.reduceEq, Int.reduceNe, Int.reduceLT, Int.reduceLE, Int.reduceNeg, Int.reduceAdd, Int.reduceSub, Int.reduceMul, reduceIte, if_true, if_false, true_and, and_true, false_and, and_false, or_true, true_or, or_false, false_or, not_true_eq_false, not_false_eq_true, ite_not, z_b0, z_b1, z_b01, rWK0 hWK, rWK1 hWK, rWK2 hWK, rWK3 hWK, rWK4 hWK, rWK5 hWK, rWK6 hWK, rWK7 hWK, rWK8 hWK, kWK0, kWK1, kWK2, kWK3, kWK4, kWK5, kWK6, kWK7, kWK8, kWK9, kWK10, kWK11, kWK12, kWK13, kWK14, kWK15, kWK16, c1, c2, c3, c4, d6, m6, c5, d, d', and_self, if_true, if_false]
  · rw [if_neg (fun q => c q.1)]
    by_cases e : 0 ≤ a
    · have c2 : 24 ≤ a := by omega
      have c3 : ¬ a < 0 := by omega
      have c4 : ¬ a < 24 := by omega
      simp only [s152_0, s152_1, s152_4, s152_5, s152_7, s152_10, s152_11, s152_13, s152_14, s152_15, s152_18, s152_19, s152_21, s152_22, s152_23, s152_26, s152_27, s152_30, s152_31, s152_32, s152_35, s152_37, zps_0, zps_1, zps_2, zps_3, zps_9, Option.bind_some, Option.bind_none, Int.reduceEq, Int.reduceNe, Int.reduceLT, Int.reduceLE, Int.reduceNeg, Int.reduceAdd, Int.reduceSub, Int.reduceMul, reduceIte, if_true, if_false, true_and, and_true, false_and, and_false, or_true, true_or, or_false, false_or, not_true_eq_false, not_false_eq_true, ite_not, z_b0, z_b1, z_b01, rWK0 hWK, rWK1 hWK, rWK2 hWK, rWK3 hWK, rWK4 hWK, rWK5 hWK, rWK6 hWK, rWK7 hWK, rWK8 hWK, kWK0, kWK1, kWK2, kWK3, kWK4, kWK5, kWK6, kWK7, kWK8, kWK9, kWK10, kWK11, kWK12, kWK13, kWK14, kWK15, kWK16, e, c2, c3, c4, if_true, if_false]
    · have c3 : a < 0 := by omega
      simp only [s152_0, s152_1, s152_4, s152_5, s152_7, s152_10, s152_11, s152_13, s152_14, s152_15, s152_18, s152_19, s152_21, s152_22, s152_23, s152_26, s152_27, s152_30, s152_31, s152_32, s152_35, s152_37, zps_0, zps_1, zps_2, zps_3, zps_9, Option.bind_some, Option.bind_none, Int.reduceEq, Int.reduceNe, Int.reduceLT, Int.reduceLE, Int.reduceNeg, Int.reduceAdd, Int.reduceSub, Int.reduceMul, reduceIte, if_true, if_false, true_and, and_true, false_and, and_false, or_true, true_or, or_false, false_or, not_true_eq_false, not_false_eq_true, ite_not, z_b0, z_b1, z_b01, rWK0 hWK, rWK1 hWK, rWK2 hWK, rWK3 hWK, rWK4 hWK, rWK5 hWK, rWK6 hWK, rWK7 hWK, rWK8 hWK, kWK0, kWK1, kWK2, kWK3, kWK4, kWK5, kWK6, kWK7, kWK8, kWK9, kWK10, kWK11, kWK12, kWK13, kWK14, kWK15, kWK16, e, c3, if_true, if_false]
theorem tz_nextStop (hWK : WK R) {a b : Int} (hb : -1 ≤ b ∧ b ≤ 1) : ev 163 0 [(2, 70), (0, a), (0, b), (9, 0)] [] R m = some ((0, cNs m a b), R, m) := by
  unfold cNs
  by_cases c : 0 ≤ a ∧ a < 24
  · have c1 : 0 ≤ a := c.1
    have c2 : ¬ 24 ≤ a := by omega
    have c3 : ¬ a < 0 := by omega
    have c4 : a < 24 := c.2
    have d6 := z_div (a := a) (b := 6) (by omega) (by omega) (by omega) (by omega)
    have m6 := z_rem (a := a) (b := 6) (by omega) (by omega) (by omega) (by omega)
    have c5 : 0 ≤ a / 6 ∧ a / 6 < 4 := by omega
    have z1 : zw (a % 6 + b) = a % 6 + b := zw_i (by omega) (by omega)
    have z2 : zw (a + b) = a + b := zw_i (by omega) (by omega)
    by_cases d0 : 0 ≤ a % 6 + b
    · have d0' : ¬ a % 6 + b < 0 := by omega
      by_cases d : a % 6 + b < m 72 (a / 6)
      · have d' : ¬ m 72 (a / 6) ≤ a % 6 + b := by omega
        rw [if_pos ⟨c, d0, d⟩]
        simp only [s163_0, s163_1, s163_4, s163_5, s163_7, s163_10, s163_11, s163_12, s163_13, s163_15, s163_16, s163_17, s163_18, s163_19, s163_20, s163_23, s163_24, s163_25, s163_28, s163_29, s163_31, s163_32, s163_33, s163_36, s163_37, s163_38, s163_39, s163_42, s163_43, zps_0, zps_1, zps_2, zps_3, zps_9, Option.bind_some, Option.bind_none, Int.reduceEq, Int.reduceNe, Int.reduceLT, Int.reduceLE, Int.reduceNeg, Int.reduceAdd, Int.reduceSub, Int.reduceMul, reduceIte, if_true, if_false, true_and, and_true, false_and, and_false, or_true, true_or, or_false, false_or, not_true_eq_false, not_false_eq_true, ite_not, z_b0, z_b1, z_b01, rWK0 hWK, rWK1 hWK, rWK2 hWK, rWK3 hWK, rWK4 hWK, rWK5 hWK, rWK6 hWK, rWK7 hWK, rWK8 hWK, kWK0, kWK1, kWK2, kWK3, kWK4, kWK5, kWK6, kWK7, kWK8, kWK9, kWK10, kWK11, kWK12, kWK13, kWK14, kWK15, kWK16, c1, c2, c3, c4, d6, m6, c5, z1, z2, d0, d0', d, d', and_self, if_true, if_false]
      · have d' : m 72 (a / 6) ≤ a % 6 + b := by omega
        rw [if_neg (fun q => d q.2.2)]
        simp only [s163_0, s163_1, s163_4, s163_5, s163_7, s163_10, s163_11, s163_12, s163_13, s163_15, s163_16, s163_17, s163_18, s163_19, s163_20, s163_23, s163_24, s163_25, s163_28, s163_29, s163_31, s163_32, s163_33, s163_36, s163_37, s163_38, s163_39, s163_42, s163_43, zps_0, zps_1, zps_2, zps_3, zps_9, Option.bind_some, Option.bind_none, Int.reduceEq, Int.reduceNe, Int.reduceLT, Int.reduceLE, Int.reduceNeg, Int.reduceAdd, Int.reduceSub, Int.reduceMul, reduceIte, if_true, if_false, true_and, and_true, false_and, and_false, or_true, true_or, or_false, false_or, not_true_eq_false, not_false_eq_true, ite_not, z_b0, z_b1, z_b01, rWK0 hWK, rWK1 hWK, rWK2 hWK, rWK3 hWK, rWK4 hWK, rWK5 hWK, rWK6 hWK, rWK7 hWK, rWK8 hWK, kWK0, kWK1, kWK2, kWK3, kWK4, kWK5, kWK6, kWK7, kWK8, kWK9, kWK10, kWK11, kWK12, kWK13, kWK14, kWK15, kWK16, c1, c2, c3, c4, d6, m6, c5, z1, z2, d0, d0', d, d', and_self, if_true, if_false]
    · have d0' : a % 6 + b < 0 := by omega
      rw [if_neg (fun q => d0 q.2.1)]
      simp only [s163_0, s163_1, s163_4, s163_5, s163_7, s163_10, s163_11, s163_12, s163_13, s163_15, s163_16, s163_17, s163_18, s163_19, s163_20, s163_23, s163_24, s163_25, s163_28, s163_29, s163_31, s163_32, s163_33, s163_36, s163_37, s163_38, s163_39, s163_42, s163_43, zps_0, zps_1, zps_2, zps_3, zps_9, Option.bind_some, Option.bind_none, Int.reduceEq, Int.reduceNe, Int.reduceLT, Int.reduceLE, Int.reduceNeg, Int.reduceAdd, Int.reduceSub, Int.reduceMul, reduceIte, if_true, if_false, true_and, and_true, false_and, and_false, or_true, true_or, or_false, false_or, not_true_eq_false, not_false_eq_true, ite_not, z_b0, z_b1, z_b01, rWK0 hWK, rWK1 hWK, rWK2 hWK, rWK3 hWK, rWK4 hWK, rWK5 hWK, rWK6 hWK, rWK7 hWK, rWK8 hWK, kWK0, kWK1, kWK2, kWK3, kWK4, kWK5, kWK6, kWK7, kWK8, kWK9, kWK10, kWK11, kWK12, kWK13, kWK14, kWK15, kWK16, c1, c2, c3, c4, d6, m6, c5, z1, z2, d0, d0', and_self, if_true, if_false]
  · rw [if_neg (fun q => c q.1)]
    by_cases e : 0 ≤ a
    · have c2 : 24 ≤ a := by omega
      have c3 : ¬ a < 0 := by omega
      have c4 : ¬ a < 24 := by omega
      simp only [s163_0, s163_1, s163_4, s163_5, s163_7, s163_10, s163_11, s163_12, s163_13, s163_15, s163_16, s163_17, s163_18, s163_19, s163_20, s163_23, s163_24, s163_25, s163_28, s163_29, s163_31, s163_32, s163_33, s163_36, s163_37, s163_38, s163_39, s163_42, s163_43, zps_0, zps_1, zps_2, zps_3, zps_9, Option.bind_some, Option.bind_none, Int.reduceEq, Int.reduceNe, Int.reduceLT, Int.reduceLE, Int.reduceNeg, Int.reduceAdd, Int.reduceSub, Int.reduceMul, reduceIte, if_true, if_false, true_and, and_true, false_and, and_false, or_true, true_or, or_false, false_or, not_true_eq_false, not_false_eq_true, ite_not, z_b0, z_b1, z_b01, rWK0 hWK, rWK1 hWK, rWK2 hWK, rWK3 hWK, rWK4 hWK, rWK5 hWK, rWK6 hWK, rWK7 hWK, rWK8 hWK, kWK0, kWK1, kWK2, kWK3, kWK4, kWK5, kWK6, kWK7, kWK8, kWK9, kWK10, kWK11, kWK12, kWK13, kWK14, kWK15, kWK16, e, c2, c3, c4, if_true, if_false]
    · have c3 : a < 0 := by omega
      simp only [s163_0, s163_1, s163_4, s163_5, s163_7, s163_10, s163_11, s163_12, s163_13, s163_15, s163_16, s163_17, s163_18, s163_19, s163_20, s163_23, s163_24, s163_25, s163_28, s163_29, s163_31, s163_32, s163_33, s163_36, s163_37, s163_38, s163_39, s163_42, s163_43, zps_0, zps_1, zps_2, zps_3, zps_9, Option.bind_some, Option.bind_none, Int.reduceEq, Int.reduceNe, Int.reduceLT, Int.reduceLE, Int.reduceNeg, Int.reduceAdd, Int.reduceSub, Int.reduceMul, reduceIte, if_true, if_false, true_and, and_true, false_and, and_false, or_true, true_or, or_false, false_or, not_true_eq_false, not_false_eq_true, ite_not, z_b0, z_b1, z_b01, rWK0 hWK, rWK1 hWK, rWK2 hWK, rWK3 hWK, rWK4 hWK, rWK5 hWK, rWK6 hWK, rWK7 hWK, rWK8 hWK, kWK0, kWK1, kWK2, kWK3, kWK4, kWK5, kWK6, kWK7, kWK8, kWK9, kWK10, kWK11, kWK12, kWK13, kWK14, kWK15, kWK16, e, c3, if_true, if_false]
theorem tz_nearest (hWK : WK R) (hB : BK R 3) {P : zDP} (h : zRP (m 76) (m 77) P) {bh : Int} (hbh : bh = if m 70 10 ≠ 0 then m 3 2 else 64 + 6 * m 70 1) (hr : 0 ≤ bh ∧ bh ≤ 88) (ht : 0 ≤ m 70 1 ∧ m 70 1 ≤ 4) (hf : ∀ s, bh ≤ s → s < 88 → ¬ P.1 s < 1000000) : ev 156 0 [(2, 70), (9, 0), (9, 0), (9, 0), (9, 0)] [] R m = some ((0, if zpk P.1 P.2 88 = -4 then -1 else zpk P.1 P.2 88), R, m) := by
  have ez : zpk P.1 P.2 88 = zpk P.1 P.2 bh.toNat := zpk_far (by omega) (fun s a b => hf s (by omega) (by omega))
  rw [ez]
  have hK3 := hB.1
  have z1 : zw (m 70 1 * 6) = 6 * m 70 1 := by rw [zw_i (by omega) (by omega)]; omega
  have z2 : zw (64 + 6 * m 70 1) = 64 + 6 * m 70 1 := zw_i (by omega) (by omega)
  have L0 : ev 156 0 [(2, 70), (9, 0), (9, 0), (9, 0), (9, 0)] [] R m = ev 156 36 [(2, 70), (0, -1), (0, 1000000), (0, bh), (0, 0)] [] R m := by
    by_cases f : m 70 10 = 0
    · rw [if_neg (fun q => q f)] at hbh
      simp only [s156_0, s156_1, s156_2, s156_4, s156_5, s156_6, s156_9, s156_12, s156_13, s156_16, s156_19, s156_22, s156_24, s156_25, s156_28, s156_30, s156_31, s156_32, s156_33, s156_34, s156_38, s156_39, s156_42, s156_44, s156_46, s156_49, s156_50, s156_53, s156_55, s156_56, s156_59, s156_60, s156_63, s156_65, s156_66, s156_67, s156_70, s156_72, s156_73, s156_74, s156_77, s156_79, s156_80, s156_81, s156_84, s156_87, s156_88, zps_0, zps_1, zps_2, zps_3, zps_9, Option.bind_some, Option.bind_none, Int.reduceEq, Int.reduceNe, Int.reduceLT, Int.reduceLE, Int.reduceNeg, Int.reduceAdd, Int.reduceSub, Int.reduceMul, reduceIte, if_true, if_false, true_and, and_true, false_and, and_false, or_true, true_or, or_false, false_or, not_true_eq_false, not_false_eq_true, ite_not, z_b0, z_b1, z_b01, rWK0 hWK, rWK1 hWK, rWK2 hWK, rWK3 hWK, rWK4 hWK, rWK5 hWK, rWK6 hWK, rWK7 hWK, rWK8 hWK, kWK0, kWK1, kWK2, kWK3, kWK4, kWK5, kWK6, kWK7, kWK8, kWK9, kWK10, kWK11, kWK12, kWK13, kWK14, kWK15, kWK16, hK3, f, z1, z2, if_true, if_false, hbh]
    · rw [if_pos f] at hbh
      simp only [s156_0, s156_1, s156_2, s156_4, s156_5, s156_6, s156_9, s156_12, s156_13, s156_16, s156_19, s156_22, s156_24, s156_25, s156_28, s156_30, s156_31, s156_32, s156_33, s156_34, s156_38, s156_39, s156_42, s156_44, s156_46, s156_49, s156_50, s156_53, s156_55, s156_56, s156_59, s156_60, s156_63, s156_65, s156_66, s156_67, s156_70, s156_72, s156_73, s156_74, s156_77, s156_79, s156_80, s156_81, s156_84, s156_87, s156_88, zps_0, zps_1, zps_2, zps_3, zps_9, Option.bind_some, Option.bind_none, Int.reduceEq, Int.reduceNe, Int.reduceLT, Int.reduceLE, Int.reduceNeg, Int.reduceAdd, Int.reduceSub, Int.reduceMul, reduceIte, if_true, if_false, true_and, and_true, false_and, and_false, or_true, true_or, or_false, false_or, not_true_eq_false, not_false_eq_true, ite_not, z_b0, z_b1, z_b01, rWK0 hWK, rWK1 hWK, rWK2 hWK, rWK3 hWK, rWK4 hWK, rWK5 hWK, rWK6 hWK, rWK7 hWK, rWK8 hWK, kWK0, kWK1, kWK2, kWK3, kWK4, kWK5, kWK6, kWK7, kWK8, kWK9, kWK10, kWK11, kWK12, kWK13, kWK14, kWK15, kWK16, hK3, f, if_true, if_false, hbh]
  rw [L0]
  have st : ∀ k : Int, 0 ≤ k → k < bh → ev 156 36 [(2, 70), (0, if zpk P.1 P.2 k.toNat = -4 then -1 else zpk P.1 P.2 k.toNat), (0, if zpk P.1 P.2 k.toNat = -4 then 1000000 else P.1 (zpk P.1 P.2 k.toNat)), (0, bh), (0, k)] [] R m = ev 156 36 [(2, 70), (0, if zpk P.1 P.2 (k + 1).toNat = -4 then -1 else zpk P.1 P.2 (k + 1).toNat), (0, if zpk P.1 P.2 (k + 1).toNat = -4 then 1000000 else P.1 (zpk P.1 P.2 (k + 1).toNat)), (0, bh), (0, k + 1)] [] R m := by
    intro k k0 k1
    have hk := h k k0 (by omega)
    have c1 : ¬ bh ≤ k := by omega
    have c2 : ¬ 88 ≤ k := by omega
    have c3 : k < 88 := by omega
    have c4 : 0 ≤ k ∧ k < 88 := by omega
    have z : zw (k + 1) = k + 1 := zw_i (by omega) (by omega)
    have ok := zpk_ok P.1 P.2 k.toNat
    have kk : ((k.toNat : Nat) : Int) = k := by omega
    have eq : zpk P.1 P.2 (k + 1).toNat = if P.2 k = false ∧ P.1 k < 1000000 ∧ (zpk P.1 P.2 k.toNat = -4 ∨ P.1 k < P.1 (zpk P.1 P.2 k.toNat)) then k else zpk P.1 P.2 k.toNat := by
      rw [show (k + 1).toNat = k.toNat + 1 by omega]
      simp only [zpk]
      rw [kk]
    generalize zpk P.1 P.2 (k + 1).toNat = x at *
    rw [s156_36]
    by_cases d : P.2 k = true
    · have n1 : ¬ m 77 k = 0 := by rw [hk.2, if_pos d]; decide
      rw [if_neg (fun q => by rw [q.1] at d; cases d)] at eq
      subst eq
      simp only [s156_0, s156_1, s156_2, s156_4, s156_5, s156_6, s156_9, s156_12, s156_13, s156_16, s156_19, s156_22, s156_24, s156_25, s156_28, s156_30, s156_31, s156_32, s156_33, s156_34, s156_38, s156_39, s156_42, s156_44, s156_46, s156_49, s156_50, s156_53, s156_55, s156_56, s156_59, s156_60, s156_63, s156_65, s156_66, s156_67, s156_70, s156_72, s156_73, s156_74, s156_77, s156_79, s156_80, s156_81, s156_84, s156_87, s156_88, zps_0, zps_1, zps_2, zps_3, zps_9, Option.bind_some, Option.bind_none, Int.reduceEq, Int.reduceNe, Int.reduceLT, Int.reduceLE, Int.reduceNeg, Int.reduceAdd, Int.reduceSub, Int.reduceMul, reduceIte, if_true, if_false, true_and, and_true, false_and, and_false, or_true, true_or, or_false, false_or, not_true_eq_false, not_false_eq_true, ite_not, z_b0, z_b1, z_b01, rWK0 hWK, rWK1 hWK, rWK2 hWK, rWK3 hWK, rWK4 hWK, rWK5 hWK, rWK6 hWK, rWK7 hWK, rWK8 hWK, kWK0, kWK1, kWK2, kWK3, kWK4, kWK5, kWK6, kWK7, kWK8, kWK9, kWK10, kWK11, kWK12, kWK13, kWK14, kWK15, kWK16, k1, c1, c2, c3, c4, n1, z, and_self, if_true, if_false]
    · have d' : P.2 k = false := by simpa using d
      have n1 : m 77 k = 0 := by rw [hk.2, if_neg d]
      have g : ∀ b, (b = zpk P.1 P.2 k.toNat) → (m 76 k < (if b = -4 then 1000000 else P.1 b) ↔ (P.1 k < 1000000 ∧ (b = -4 ∨ P.1 k < P.1 b))) := by
        intro b hb
        rw [hk.1]
        rcases ok with ⟨q, -⟩ | ⟨q1, q2, q3, q4, -⟩
        · rw [hb, q]; simp
        · rw [hb, if_neg (by omega)]
          constructor
          · intro r; exact ⟨by omega, Or.inr r⟩
          · rintro ⟨r1, r2 | r2⟩
            · omega
            · exact r2
      have g := g _ rfl
      by_cases f : P.1 k < 1000000 ∧ (zpk P.1 P.2 k.toNat = -4 ∨ P.1 k < P.1 (zpk P.1 P.2 k.toNat))
      · have g1 := g.2 f
        have g2 : ¬ (if zpk P.1 P.2 k.toNat = -4 then 1000000 else P.1 (zpk P.1 P.2 k.toNat)) ≤ m 76 k := by omega
        have k4 : ¬ k = -4 := by omega
        have g3 : ¬ (if zpk P.1 P.2 k.toNat = -4 then 1000000 else P.1 (zpk P.1 P.2 k.toNat)) ≤ P.1 k := by rw [← hk.1]; exact g2
        rw [if_pos ⟨d', f⟩] at eq
        subst eq
        simp only [s156_0, s156_1, s156_2, s156_4, s156_5, s156_6, s156_9, s156_12, s156_13, s156_16, s156_19, s156_22, s156_24, s156_25, s156_28, s156_30, s156_31, s156_32, s156_33, s156_34, s156_38, s156_39, s156_42, s156_44, s156_46, s156_49, s156_50, s156_53, s156_55, s156_56, s156_59, s156_60, s156_63, s156_65, s156_66, s156_67, s156_70, s156_72, s156_73, s156_74, s156_77, s156_79, s156_80, s156_81, s156_84, s156_87, s156_88, zps_0, zps_1, zps_2, zps_3, zps_9, Option.bind_some, Option.bind_none, Int.reduceEq, Int.reduceNe, Int.reduceLT, Int.reduceLE, Int.reduceNeg, Int.reduceAdd, Int.reduceSub, Int.reduceMul, reduceIte, if_true, if_false, true_and, and_true, false_and, and_false, or_true, true_or, or_false, false_or, not_true_eq_false, not_false_eq_true, ite_not, z_b0, z_b1, z_b01, rWK0 hWK, rWK1 hWK, rWK2 hWK, rWK3 hWK, rWK4 hWK, rWK5 hWK, rWK6 hWK, rWK7 hWK, rWK8 hWK, kWK0, kWK1, kWK2, kWK3, kWK4, kWK5, kWK6, kWK7, kWK8, kWK9, kWK10, kWK11, kWK12, kWK13, kWK14, kWK15, kWK16, k1, c1, c2, c3, c4, n1, z, g3, and_self, if_true, if_false, k4, hk.1]
      · have g1 : ¬ m 76 k < (if zpk P.1 P.2 k.toNat = -4 then 1000000 else P.1 (zpk P.1 P.2 k.toNat)) := fun q => f (g.1 q)
        have g2 : (if zpk P.1 P.2 k.toNat = -4 then 1000000 else P.1 (zpk P.1 P.2 k.toNat)) ≤ m 76 k := by omega
        rw [if_neg (fun q => f q.2)] at eq
        subst eq
        simp only [s156_0, s156_1, s156_2, s156_4, s156_5, s156_6, s156_9, s156_12, s156_13, s156_16, s156_19, s156_22, s156_24, s156_25, s156_28, s156_30, s156_31, s156_32, s156_33, s156_34, s156_38, s156_39, s156_42, s156_44, s156_46, s156_49, s156_50, s156_53, s156_55, s156_56, s156_59, s156_60, s156_63, s156_65, s156_66, s156_67, s156_70, s156_72, s156_73, s156_74, s156_77, s156_79, s156_80, s156_81, s156_84, s156_87, s156_88, zps_0, zps_1, zps_2, zps_3, zps_9, Option.bind_some, Option.bind_none, Int.reduceEq, Int.reduceNe, Int.reduceLT, Int.reduceLE, Int.reduceNeg, Int.reduceAdd, Int.reduceSub, Int.reduceMul, reduceIte, if_true, if_false, true_and, and_true, false_and, and_false, or_true, true_or, or_false, false_or, not_true_eq_false, not_false_eq_true, ite_not, z_b0, z_b1, z_b01, rWK0 hWK, rWK1 hWK, rWK2 hWK, rWK3 hWK, rWK4 hWK, rWK5 hWK, rWK6 hWK, rWK7 hWK, rWK8 hWK, kWK0, kWK1, kWK2, kWK3, kWK4, kWK5, kWK6, kWK7, kWK8, kWK9, kWK10, kWK11, kWK12, kWK13, kWK14, kWK15, kWK16, k1, c1, c2, c3, c4, n1, z, g1, g2, and_self, if_true, if_false]
  have key := zloop (fun r => r = some ((0, if zpk P.1 P.2 bh.toNat = -4 then -1 else zpk P.1 P.2 bh.toNat), R, m)) (fun k (_ : Unit) => ev 156 36 [(2, 70), (0, if zpk P.1 P.2 k.toNat = -4 then -1 else zpk P.1 P.2 k.toNat), (0, if zpk P.1 P.2 k.toNat = -4 then 1000000 else P.1 (zpk P.1 P.2 k.toNat)), (0, bh), (0, k)] [] R m) bh (fun k _ => 0 ≤ k) (fun k _ hk k0 ih => by
    rw [st k k0 hk]
    exact ih () (by omega)) (fun _ _ => by
    rw [s156_36]
    simp only [s156_0, s156_1, s156_2, s156_4, s156_5, s156_6, s156_9, s156_12, s156_13, s156_16, s156_19, s156_22, s156_24, s156_25, s156_28, s156_30, s156_31, s156_32, s156_33, s156_34, s156_38, s156_39, s156_42, s156_44, s156_46, s156_49, s156_50, s156_53, s156_55, s156_56, s156_59, s156_60, s156_63, s156_65, s156_66, s156_67, s156_70, s156_72, s156_73, s156_74, s156_77, s156_79, s156_80, s156_81, s156_84, s156_87, s156_88, zps_0, zps_1, zps_2, zps_3, zps_9, Option.bind_some, Option.bind_none, Int.reduceEq, Int.reduceNe, Int.reduceLT, Int.reduceLE, Int.reduceNeg, Int.reduceAdd, Int.reduceSub, Int.reduceMul, reduceIte, if_true, if_false, true_and, and_true, false_and, and_false, or_true, true_or, or_false, false_or, not_true_eq_false, not_false_eq_true, ite_not, z_b0, z_b1, z_b01, Int.le_refl, if_true]) 0 () hr.1 (by omega)
  exact key
end WSMALL
