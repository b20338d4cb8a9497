/-! plan, chosen -/
section PLANX
variable {R m x y w z : zM} {p q t u S0 K Y to a b : Int} {n : Nat}
theorem tz_pladd (hQK : QK R) {n : Int} (hn : m 87 0 = n) (h7 : 0 ≤ n ∧ n ≤ 5) (a b c : Int) : ev 75 0 [(2, 87), (0, a), (0, b), (0, c)] [] R m = some ((0, n), R, zpr (zpr (zpr (zpr m 88 (zrw (m 88) n a)) 89 (zrw (m 89) n b)) 90 (zrw (m 90) n c)) 87 (zrw (m 87) 0 (n + 1))) := by
  have W := tz_within n 0 5 R m
  rw [if_pos h7] at W
  have z1 : zw (n + 1) = n + 1 := zw_i (by omega) (by omega)
  have z2 : zw (n + 1 - 1) = n := by rw [zw_i (by omega) (by omega)]; omega
  have c6 : 0 ≤ n ∧ n < 6 := by omega
  have e1 : ∀ F, zpr m 88 F 87 = m 87 := fun F => zpr_ne (by decide)
  have e2 : ∀ F G, zpr (zpr m 88 F) 89 G 87 = m 87 := fun F G => by rw [zpr_ne (by decide), zpr_ne (by decide)]
  have e3 : ∀ F G H, zpr (zpr (zpr m 88 F) 89 G) 90 H 87 = m 87 := fun F G H => by rw [zpr_ne (by decide), zpr_ne (by decide), zpr_ne (by decide)]
  have e5 : ∀ F, zpr m 88 F 89 = m 89 := fun F => zpr_ne (by decide)
  have e6 : ∀ F G, zpr (zpr m 88 F) 89 G 90 = m 90 := fun F G => by rw [zpr_ne (by decide), zpr_ne (by decide)]
  have e4 : zrw (m 87) 0 (n + 1) 0 = n + 1 := zrw_at _ _ _
  simp only [s75_0, s75_1, s75_4, s75_5, s75_6, s75_9, s75_12, s75_14, s75_15, s75_16, s75_19, s75_20, s75_23, s75_24, s75_25, s75_26, s75_29, s75_30, s75_33, s75_34, s75_35, s75_36, s75_39, s75_40, s75_43, s75_44, s75_45, s75_46, s75_47, s75_50, s75_51, s75_52, s75_55, s75_56, s75_59, s75_60, s75_61, zps_0, zps_1, zps_2, zps_3, zps_9, Option.bind_some, Option.bind_none, Int.reduceEq, Int.reduceNe, Int.reduceLT, Int.reduceLE, Int.reduceNeg, Int.reduceAdd, Int.reduceSub, Int.reduceMul, reduceIte, if_true, if_false, true_and, and_true, false_and, and_false, or_true, true_or, or_false, false_or, not_true_eq_false, not_false_eq_true, ite_not, z_b0, z_b1, z_b01, rQK0 hQK, rQK1 hQK, rQK2 hQK, kQK0, kQK1, kQK2, kQK3, kQK4, kQK5, kQK6, hn, W, z1, c6, e1, e2, e3, e4, e5, e6, z2, zup_zpr, zpr_at, and_self, if_true, if_false]
end PLANX
