/-! one byte fed: the code's way -/
section FEED2
variable {R m : zM} {lt lp lw j n : Int} {cs : Int → Int}
theorem l_feedA {V V1 c r r1 k : Int} (p1 : KX R lp = 20) (p2 : LX R lp = 2) (w1 : KX R lw = 21) (w2 : LX R lw = 1) (t1 : KX R lt = 20) (t2 : LX R lt = 64) (hne : lp ≠ lw) (f0 : m lp 0 = r) (f1 : m lp 1 = j) (f2 : m lw 0 = V) (hb : m lt k = c) (PK : z64 (· ||| ·) (z6s (fun x y => x <<< (y.toInt64 &&& 63)) V 8) c = V1) (c1 : ¬ n ≤ k) (c2 : 0 ≤ k ∧ k < 64) (z1 : zw (k + 1) = k + 1) (z2 : zw (r + 1) = r1) (z3 : zw (j + 1) = j + 1) (q8 : ¬ r1 = 8) : ev 328 3 [(2, 1), (2, lt), (0, n), (2, lp), (2, lw), (0, k)] [] R m = ev 328 3 [(2, 1), (2, lt), (0, n), (2, lp), (2, lw), (0, k + 1)] [] R (zpr (zpr m lw (zrw (m lw) 0 V1)) lp (zrw (zrw (m lp) 0 r1) 1 (j + 1))) := by
  have d01 : (0 : Int) ≤ 0 ∧ (0 : Int) < 1 := by decide
  have d02 : (0 : Int) ≤ 0 ∧ (0 : Int) < 2 := by decide
  have d12 : (0 : Int) ≤ 1 ∧ (1 : Int) < 2 := by decide
  have e1 : ∀ F, zpr m lw F lp = m lp := fun F => zpr_ne hne
  have g1 : ∀ v, zrw (m lp) 0 v 1 = j := fun v => by rw [zrw_ne (by decide), f1]
  have g0 : ∀ v u, zrw (zrw (m lp) 0 v) 1 u 0 = v := fun v u => by rw [zrw_ne (by decide), zrw_at]
  rw [s328_3]
  simp only [s328_0, s328_1, s328_5, s328_6, s328_9, s328_11, s328_12, s328_14, s328_15, s328_16, s328_18, s328_19, s328_20, s328_22, s328_23, s328_24, s328_25, s328_26, s328_27, s328_28, s328_29, s328_30, s328_31, s328_32, s328_33, s328_34, s328_35, s328_36, s328_37, s328_38, s328_39, s328_40, s328_41, s328_42, s328_43, s328_45, s328_48, s328_49, s328_51, s328_52, s328_53, s328_56, s328_57, s328_58, s328_59, s328_60, s328_61, s328_63, s328_64, s328_65, s328_66, s328_69, s328_72, zps_0, zps_1, zps_2, zps_3, zps_9, Option.bind_some, Option.bind_none, Int.reduceEq, Int.reduceNe, Int.reduceLT, Int.reduceLE, Int.reduceNeg, Int.reduceAdd, Int.reduceSub, Int.reduceMul, reduceIte, if_true, if_false, true_and, and_true, false_and, and_false, or_true, true_or, or_false, false_or, not_true_eq_false, not_false_eq_true, ite_not, z_b0, z_b1, z_b01, p1, p2, w1, w2, t1, t2, c1, c2, d01, d02, d12, f0, f2, hb, PK, e1, z1, z2, z3, g1, g0, q8, zup_zpr, zpr_at, zpr_zpr, and_self, if_true, if_false]
theorem l_feedB {V V1 c r k : Int} {m3 : zM} (p1 : KX R lp = 20) (p2 : LX R lp = 2) (w1 : KX R lw = 21) (w2 : LX R lw = 1) (t1 : KX R lt = 20) (t2 : LX R lt = 64) (hne : lp ≠ lw) (f0 : m lp 0 = r) (f1 : m lp 1 = j) (f2 : m lw 0 = V) (hb : m lt k = c) (PK : z64 (· ||| ·) (z6s (fun x y => x <<< (y.toInt64 &&& 63)) V 8) c = V1) (c1 : ¬ n ≤ k) (c2 : 0 ≤ k ∧ k < 64) (z1 : zw (k + 1) = k + 1) (z2 : zw (r + 1) = 8) (z3 : zw (j + 1) = j + 1) {v : Int} (F : ev 186 0 [(2, 1), (1, V1), (8, 0)] [] R (zpr (zpr m lw (zrw (m lw) 0 V1)) lp (zrw (zrw (m lp) 0 8) 1 (j + 1))) = some ((0, v), R, m3)) : ev 328 3 [(2, 1), (2, lt), (0, n), (2, lp), (2, lw), (0, k)] [] R m = ev 328 3 [(2, 1), (2, lt), (0, n), (2, lp), (2, lw), (0, k + 1)] [] R (zpr (zpr m3 lp (zrw (m3 lp) 0 0)) lw (zrw (m3 lw) 0 0)) := by
  have d01 : (0 : Int) ≤ 0 ∧ (0 : Int) < 1 := by decide
  have d02 : (0 : Int) ≤ 0 ∧ (0 : Int) < 2 := by decide
  have d12 : (0 : Int) ≤ 1 ∧ (1 : Int) < 2 := by decide
  have e1 : ∀ F, zpr m lw F lp = m lp := fun F => zpr_ne hne
  have hne' : lw ≠ lp := fun q => hne q.symm
  have e2 : ∀ G F, zpr (zpr m lw F) lp G lw = F := fun G F => by rw [zpr_ne hne', zpr_at]
  have e3 : ∀ F, zrw F 0 V1 0 = V1 := fun F => zrw_at _ _ _
  have e4 : ∀ F, zpr m3 lp F lw = m3 lw := fun F => zpr_ne hne'
  have g1 : ∀ v, zrw (m lp) 0 v 1 = j := fun v => by rw [zrw_ne (by decide), f1]
  have g0 : ∀ v u, zrw (zrw (m lp) 0 v) 1 u 0 = v := fun v u => by rw [zrw_ne (by decide), zrw_at]
  rw [s328_3]
  simp only [s328_0, s328_1, s328_5, s328_6, s328_9, s328_11, s328_12, s328_14, s328_15, s328_16, s328_18, s328_19, s328_20, s328_22, s328_23, s328_24, s328_25, s328_26, s328_27, s328_28, s328_29, s328_30, s328_31, s328_32, s328_33, s328_34, s328_35, s328_36, s328_37, s328_38, s328_39, s328_40, s328_41, s328_42, s328_43, s328_45, s328_48, s328_49, s328_51, s328_52, s328_53, s328_56, s328_57, s328_58, s328_59, s328_60, s328_61, s328_63, s328_64, s328_65, s328_66, s328_69, s328_72, zps_0, zps_1, zps_2, zps_3, zps_9, Option.bind_some, Option.bind_none, Int.reduceEq, Int.reduceNe, Int.reduceLT, Int.reduceLE, Int.reduceNeg, Int.reduceAdd, Int.reduceSub, Int.reduceMul, reduceIte, if_true, if_false, true_and, and_true, false_and, and_false, or_true, true_or, or_false, false_or, not_true_eq_false, not_false_eq_true, ite_not, z_b0, z_b1, z_b01, xk1, p1, p2, w1, w2, t1, t2, c1, c2, d01, d02, d12, f0, f2, hb, PK, e1, e2, e3, e4, z1, z2, z3, g1, g0, F, zup_zpr, zpr_at, zpr_zpr, and_self, if_true, if_false]
end FEED2
