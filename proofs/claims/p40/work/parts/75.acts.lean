/-! the acts that are kept -/
section ACTS
variable {R m : zM}
theorem tz_afull (hAK : AK R) : ev 3 0 [(2, 58)] [] R m = some ((0, if 60 ≤ m 58 0 then 1 else 0), R, m) := by
  simp only [s3_0, s3_1, s3_4, s3_6, s3_9, s3_10, s3_13, s3_14, zps_0, zps_1, zps_2, zps_3, zps_9, Option.bind_some, Option.bind_none, Int.reduceEq, Int.reduceNe, Int.reduceLT, Int.reduceLE, Int.reduceNeg, Int.reduceAdd, Int.reduceSub, Int.reduceMul, reduceIte, if_true, if_false, true_and, and_true, false_and, and_false, or_true, true_or, or_false, false_or, not_true_eq_false, not_false_eq_true, ite_not, z_b0, z_b1, z_b01, rAK0 hAK, rAK1 hAK, rAK2 hAK, rAK3 hAK, kAK0, kAK1, kAK2, kAK3, kAK4, kAK5, kAK6, kAK7, kAK8]
  (repeat' split) <;> first | rfl | (exfalso; omega)
theorem tz_aput (hAK : AK R) (h : 1 ≤ m 58 0 ∧ m 58 0 ≤ 60) {i : Int} (hi : 0 ≤ i ∧ i ≤ 3) (v : Int) : ev 5 0 [(2, 58), (0, i), (0, v)] [] R m = some ((9, 0), R, zpr m 61 (zrw (m 61) (4 * (m 58 0 - 1) + i) v)) := by
  have e0 : zw (m 58 0 - 1) = m 58 0 - 1 := zw_i (by omega) (by omega)
  have e1 : zw ((m 58 0 - 1) * 4) = (m 58 0 - 1) * 4 := zw_i (by omega) (by omega)
  have e2 : zw ((m 58 0 - 1) * 4 + i) = (m 58 0 - 1) * 4 + i := zw_i (by omega) (by omega)
  have c : 0 ≤ (m 58 0 - 1) * 4 + i ∧ (m 58 0 - 1) * 4 + i < 240 := by omega
  have W := tz_within i 0 3 R m
  have W2 := tz_within (m 58 0) 1 60 R m
  simp only [s5_0, s5_1, s5_4, s5_5, s5_7, s5_10, s5_13, s5_14, s5_15, s5_16, s5_19, s5_22, s5_23, s5_26, s5_27, s5_30, s5_31, s5_32, s5_33, s5_34, s5_35, s5_36, s5_37, s5_38, zps_0, zps_1, zps_2, zps_3, zps_9, Option.bind_some, Option.bind_none, Int.reduceEq, Int.reduceNe, Int.reduceLT, Int.reduceLE, Int.reduceNeg, Int.reduceAdd, Int.reduceSub, Int.reduceMul, reduceIte, if_true, if_false, true_and, and_true, false_and, and_false, or_true, true_or, or_false, false_or, not_true_eq_false, not_false_eq_true, ite_not, z_b0, z_b1, z_b01, rAK0 hAK, rAK1 hAK, rAK2 hAK, rAK3 hAK, kAK0, kAK1, kAK2, kAK3, kAK4, kAK5, kAK6, kAK7, kAK8, h, hi, W, W2, e0, e1, e2, c, zup_zpr]
  rw [Int.mul_comm]
def zkeep (m : zM) (k y p v : Int) : zM := zpr (zpr (zpr (zpr m 59 (zrw (m 59) (m 58 0) k)) 60 (zrw (m 60) (m 58 0) y)) 58 (zrw (m 58) 0 (m 58 0 + 1))) 61 (zrw (zrw (m 61) (4 * m 58 0) p) (4 * m 58 0 + 1) v)
theorem tz_keep (hAK : AK R) (h : 0 ≤ m 58 0 ∧ m 58 0 < 60) (k y p v : Int) : ev 4 0 [(2, 58), (0, k), (0, y), (0, p), (0, v)] [] R m = some ((9, 0), R, zkeep m k y p v) := by
  have F := tz_afull (m := m) hAK
  have c : ¬ 60 ≤ m 58 0 := by omega
  have e0 : zw (m 58 0 + 1) = m 58 0 + 1 := zw_i (by omega) (by omega)
  obtain ⟨M, hM⟩ : ∃ M : (Int → Int) → zM, ∀ f, M f = zpr (zpr (zpr (zpr m 59 (zrw (m 59) (m 58 0) k)) 60 (zrw (m 60) (m 58 0) y)) 58 (zrw (m 58) 0 (m 58 0 + 1))) 61 f := ⟨_, fun _ => rfl⟩
  have m58 : ∀ f, M f 58 0 = m 58 0 + 1 := fun f => by rw [hM, zpr_ne (by decide), zpr_at, zrw_at]
  have m61 : ∀ f, M f 61 = f := fun f => by rw [hM, zpr_at]
  have P : ∀ f i w, 0 ≤ i ∧ i ≤ 3 → ev 5 0 [(2, 58), (0, i), (0, w)] [] R (M f) = some ((9, 0), R, M (zrw f (4 * m 58 0 + i) w)) := by
    intro f i w hi
    rw [tz_aput hAK (by rw [m58]; omega) hi, m58, m61, hM, hM, zpr_zpr, show m 58 0 + 1 - 1 = m 58 0 by omega]
  have P0 := fun f w => P f 0 w (by omega)
  have P1 := fun f w => P f 1 w (by omega)
  have hz : zpr (zpr (zpr m 59 (zrw (m 59) (m 58 0) k)) 60 (zrw (m 60) (m 58 0) y)) 58 (zrw (m 58) 0 (m 58 0 + 1)) = M (m 61) := by
    rw [hM]
    have : m 61 = zpr (zpr (zpr m 59 (zrw (m 59) (m 58 0) k)) 60 (zrw (m 60) (m 58 0) y)) 58 (zrw (m 58) 0 (m 58 0 + 1)) 61 := by rw [zpr_ne (by decide), zpr_ne (by decide), zpr_ne (by decide)]
    rw [this, zpr_self]
  clear P
  have n1 : ∀ f, zpr m 59 f 58 = m 58 := fun f => zpr_ne (by decide)
  have n2 : ∀ f, zpr m 59 f 60 = m 60 := fun f => zpr_ne (by decide)
  have n3 : ∀ f g, zpr (zpr m 59 f) 60 g 58 = m 58 := fun f g => by rw [zpr_ne (by decide), zpr_ne (by decide)]
  simp only [s4_0, s4_1, s4_4, s4_7, s4_8, s4_11, s4_14, s4_15, s4_16, s4_19, s4_20, s4_23, s4_24, s4_25, s4_26, s4_29, s4_30, s4_33, s4_34, s4_35, s4_36, s4_37, s4_40, s4_41, s4_42, s4_45, s4_46, s4_47, s4_48, s4_51, s4_52, s4_53, s4_55, s4_58, zps_0, zps_1, zps_2, zps_3, zps_9, Option.bind_some, Option.bind_none, Int.reduceEq, Int.reduceNe, Int.reduceLT, Int.reduceLE, Int.reduceNeg, Int.reduceAdd, Int.reduceSub, Int.reduceMul, reduceIte, if_true, if_false, true_and, and_true, false_and, and_false, or_true, true_or, or_false, false_or, not_true_eq_false, not_false_eq_true, ite_not, z_b0, z_b1, z_b01, rAK0 hAK, rAK1 hAK, rAK2 hAK, rAK3 hAK, kAK0, kAK1, kAK2, kAK3, kAK4, kAK5, kAK6, kAK7, kAK8, F, c, h, zup_zpr, n1, n2, n3, e0, hz, P0, P1, Int.add_zero]
  unfold zkeep
  rw [hM]
end ACTS
