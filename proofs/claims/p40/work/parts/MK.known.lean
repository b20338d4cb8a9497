/-! what is known of all years and plots -/
section KNOWN
variable {R m : zM} {x w h N a b d B bs bm bc s e g c lt k x1 yr p u : Int} {n np nt : Nat} {KK : Nat → Int → Int} {v15 v16 v17 v18 v19 v20 v21 v22 v23 v24 : zV}
theorem l_known1 (hR : RK R) (hIl : IR R lt 64) (hS : SV m c) (hT : NT m lt nt) (h6 : nt ≤ 6) (hN : m 3 2 = N) (hN2 : 1 ≤ N ∧ N ≤ 16) (h23 : 3 ≤ m 2 3) (hy : 0 ≤ yr ∧ yr < 3) (hp : 0 ≤ p ∧ p < N) : ev 0 1118 [(4, x), (2, 1), (2, 100), (0, (n : Int)), (0, N), (0, w), (0, (np : Int)), (2, a), (2, b), (2, d), (0, B), (0, bs), (0, bm), (0, bc), (2, lt), (0, yr), (0, p), v17, v18, v19, v20, v21, v22, v23, v24] [] R m = ev 0 1118 [(4, x), (2, 1), (2, 100), (0, (n : Int)), (0, N), (0, w), (0, (np : Int)), (2, a), (2, b), (2, d), (0, B), (0, bs), (0, bm), (0, bc), (2, lt), (0, yr), (0, p + 1), v17, v18, v19, v20, v21, v22, v23, v24] [] R m := by
  have A1 := k_known (R := R) (m := m) (k := 9) (y := yr) (p := p) hR hS hT.1 (by omega) (by omega) ⟨hy.1, by omega⟩ (by omega) (by omega)
  have A3 := k_was (R := R) (m := m) (y := yr) (p := p) hR hS ⟨hy.1, by omega⟩ (by omega)
  have A2 := k_knownB (R := R) (m := m) (y := yr) (p := p) hR hS ⟨hy.1, by omega⟩ (by omega) (yr - 1) (by omega)
  have T := hT.2.2 yr p hy.1 hy.2 hp.1 (by omega)
  have zp : zw (p + 1) = p + 1 := zw_i (by omega) (by omega)
  have z16 : zw (16 * yr) = 16 * yr := zw_i (by omega) (by omega)
  have z16p : zw (16 * yr + p) = 16 * yr + p := zw_i (by omega) (by omega)
  have i64 : 0 ≤ 16 * yr + p ∧ 16 * yr + p < 64 := by omega
  have zy : zw (yr - 1) = yr - 1 := zw_i (by omega) (by omega)
  have c1 : ¬ N ≤ p := by omega
  have kd1 : KD 1 = 12 := kGK0
  have hB : (if yr - 1 < 0 then (-1 : Int) else -2) = if yr = 0 then -1 else -2 := by split <;> split <;> omega
  rw [hB] at A2
  have fin : ev 0 1176 [(4, x), (2, 1), (2, 100), (0, (n : Int)), (0, N), (0, w), (0, (np : Int)), (2, a), (2, b), (2, d), (0, B), (0, bs), (0, bm), (0, bc), (2, lt), (0, yr), (0, p), v17, v18, v19, v20, v21, v22, v23, v24] [] R m = ev 0 1118 [(4, x), (2, 1), (2, 100), (0, (n : Int)), (0, N), (0, w), (0, (np : Int)), (2, a), (2, b), (2, d), (0, B), (0, bs), (0, bm), (0, bc), (2, lt), (0, yr), (0, p + 1), v17, v18, v19, v20, v21, v22, v23, v24] [] R m := by
    by_cases y0 : yr = 0
    · rw [if_pos y0] at A2
      simp only [s0_1176, s0_1177, s0_1179, s0_1180, s0_1181, s0_1183, s0_1185, s0_1188, s0_1190, s0_1193, s0_1194, s0_1197, s0_1199, s0_1204, s0_1207, zps_0, zps_1, zps_2, zps_3, zps_9, Option.bind_some, Option.bind_none, Int.reduceEq, Int.reduceNe, Int.reduceLT, Int.reduceLE, Int.reduceNeg, Int.reduceAdd, Int.reduceSub, Int.reduceMul, reduceIte, if_true, if_false, true_and, and_true, false_and, and_false, or_true, true_or, or_false, false_or, not_true_eq_false, not_false_eq_true, ite_not, z_b0, z_b1, z_b01, zy, A2, xk1, kd1, zp]
      rw [if_pos y0]
    · rw [if_neg y0] at A2
      simp only [s0_1176, s0_1177, s0_1179, s0_1180, s0_1181, s0_1183, s0_1185, s0_1188, s0_1190, s0_1193, s0_1194, s0_1197, s0_1199, s0_1204, s0_1207, zps_0, zps_1, zps_2, zps_3, zps_9, Option.bind_some, Option.bind_none, Int.reduceEq, Int.reduceNe, Int.reduceLT, Int.reduceLE, Int.reduceNeg, Int.reduceAdd, Int.reduceSub, Int.reduceMul, reduceIte, if_true, if_false, true_and, and_true, false_and, and_false, or_true, true_or, or_false, false_or, not_true_eq_false, not_false_eq_true, ite_not, z_b0, z_b1, z_b01, zy, A2, xk1, kd1, zp, y0, if_true, if_false]
  rw [← fin]
  have b95 : ¬ nAt m nt 9 yr p < 0 → 0 ≤ m 95 (nAt m nt 9 yr p) ∧ m 95 (nAt m nt 9 yr p) ≤ 3 := fun q => by
    rcases nAt_bd m nt 9 yr p with z | z
    · omega
    · exact (hT.2.1 _ z.1 z.2).2.2
  generalize nAt m nt 9 yr p = i at A1 T b95
  by_cases q : i < 0
  · rw [if_pos q] at A1 T
    obtain ⟨k1, l1⟩ := hIl
    rw [s0_1118]
    simp only [s0_1120, s0_1122, s0_1125, s0_1126, s0_1128, s0_1130, s0_1132, s0_1135, s0_1137, s0_1139, s0_1141, s0_1142, s0_1144, s0_1145, s0_1146, s0_1165, s0_1166, s0_1168, s0_1170, s0_1173, zps_0, zps_1, zps_2, zps_3, zps_9, Option.bind_some, Option.bind_none, Int.reduceEq, Int.reduceNe, Int.reduceLT, Int.reduceLE, Int.reduceNeg, Int.reduceAdd, Int.reduceSub, Int.reduceMul, reduceIte, if_true, if_false, true_and, and_true, false_and, and_false, or_true, true_or, or_false, false_or, not_true_eq_false, not_false_eq_true, ite_not, z_b0, z_b1, z_b01, c1, A1, A3, T, z16, z16p, i64, k1, l1, xk1, kd1, and_self, if_true, if_false]
  · rw [if_neg q] at A1 T
    have b := b95 q
    have c2 : ¬ 1 + m 95 i ≤ 0 := by omega
    have zi : zw (1 + m 95 i - 1) = m 95 i := by
      rw [show 1 + m 95 i - 1 = m 95 i by omega]
      exact zw_i (by omega) (by omega)
    obtain ⟨k1, l1⟩ := hIl
    rw [s0_1118]
    simp only [s0_1120, s0_1122, s0_1125, s0_1126, s0_1128, s0_1130, s0_1132, s0_1135, s0_1137, s0_1139, s0_1141, s0_1142, s0_1144, s0_1145, s0_1146, s0_1149, s0_1151, s0_1153, s0_1155, s0_1156, s0_1158, s0_1159, s0_1160, s0_1161, s0_1162, s0_1173, zps_0, zps_1, zps_2, zps_3, zps_9, Option.bind_some, Option.bind_none, Int.reduceEq, Int.reduceNe, Int.reduceLT, Int.reduceLE, Int.reduceNeg, Int.reduceAdd, Int.reduceSub, Int.reduceMul, reduceIte, if_true, if_false, true_and, and_true, false_and, and_false, or_true, true_or, or_false, false_or, not_true_eq_false, not_false_eq_true, ite_not, z_b0, z_b1, z_b01, c1, c2, A1, T, z16, z16p, i64, k1, l1, zi, xk1, kd1, and_self, if_true, if_false]
theorem l_knowns (hR : RK R) (hIl : IR R lt 64) (hS : SV m c) (hT : NT m lt nt) (h6 : nt ≤ 6) (hN : m 3 2 = N) (hN2 : 1 ≤ N ∧ N ≤ 16) (h23 : 3 ≤ m 2 3) : ev 0 1106 [(4, x), (2, 1), (2, 100), (0, (n : Int)), (0, N), (0, w), (0, (np : Int)), (2, a), (2, b), (2, d), (0, B), (0, bs), (0, bm), (0, bc), (2, lt), (0, k), v16, v17, v18, v19, v20, v21, v22, v23, v24] [] R m = ev 0 1231 [(4, x), (2, 1), (2, 100), (0, (n : Int)), (0, N), (0, w), (0, (np : Int)), (2, a), (2, b), (2, d), (0, B), (0, bs), (0, bm), (0, bc), (2, lt), (0, m 9 0), (0, m 58 0), v17, v18, v19, v20, v21, v22, v23, v24] [] R m := by
  have inner : ∀ (yr : Int) (v16 : zV), 0 ≤ yr → yr < 3 → ev 0 1115 [(4, x), (2, 1), (2, 100), (0, (n : Int)), (0, N), (0, w), (0, (np : Int)), (2, a), (2, b), (2, d), (0, B), (0, bs), (0, bm), (0, bc), (2, lt), (0, yr), v16, v17, v18, v19, v20, v21, v22, v23, v24] [] R m = ev 0 1210 [(4, x), (2, 1), (2, 100), (0, (n : Int)), (0, N), (0, w), (0, (np : Int)), (2, a), (2, b), (2, d), (0, B), (0, bs), (0, bm), (0, bc), (2, lt), (0, yr), (0, N), v17, v18, v19, v20, v21, v22, v23, v24] [] R m := by
    intro yr v16 y0 y1
    have L0 : ev 0 1115 [(4, x), (2, 1), (2, 100), (0, (n : Int)), (0, N), (0, w), (0, (np : Int)), (2, a), (2, b), (2, d), (0, B), (0, bs), (0, bm), (0, bc), (2, lt), (0, yr), v16, v17, v18, v19, v20, v21, v22, v23, v24] [] R m = ev 0 1118 [(4, x), (2, 1), (2, 100), (0, (n : Int)), (0, N), (0, w), (0, (np : Int)), (2, a), (2, b), (2, d), (0, B), (0, bs), (0, bm), (0, bc), (2, lt), (0, yr), (0, 0), v17, v18, v19, v20, v21, v22, v23, v24] [] R m := by
      simp only [s0_1115, s0_1116, zps_0, zps_1, zps_2, zps_3, zps_9, Option.bind_some, Option.bind_none, Int.reduceEq, Int.reduceNe, Int.reduceLT, Int.reduceLE, Int.reduceNeg, Int.reduceAdd, Int.reduceSub, Int.reduceMul, reduceIte, if_true, if_false, true_and, and_true, false_and, and_false, or_true, true_or, or_false, false_or, not_true_eq_false, not_false_eq_true, ite_not, z_b0, z_b1, z_b01]
    rw [L0]
    refine zloop (fun r => r = ev 0 1210 [(4, x), (2, 1), (2, 100), (0, (n : Int)), (0, N), (0, w), (0, (np : Int)), (2, a), (2, b), (2, d), (0, B), (0, bs), (0, bm), (0, bc), (2, lt), (0, yr), (0, N), v17, v18, v19, v20, v21, v22, v23, v24] [] R m) (fun q (_ : Unit) => ev 0 1118 [(4, x), (2, 1), (2, 100), (0, (n : Int)), (0, N), (0, w), (0, (np : Int)), (2, a), (2, b), (2, d), (0, B), (0, bs), (0, bm), (0, bc), (2, lt), (0, yr), (0, q), v17, v18, v19, v20, v21, v22, v23, v24] [] R m) N (fun q _ => 0 ≤ q) ?_ ?_ 0 () (by omega) (Int.le_refl _)
    · rintro q _ hq q0 ih
      rw [l_known1 (nt := nt) hR hIl hS hT h6 hN hN2 h23 ⟨y0, y1⟩ ⟨q0, hq⟩]
      exact ih () (by omega)
    · rintro _ _
      rw [s0_1118]
      simp only [s0_1120, s0_1122, Int.le_refl, if_true]
  have L0 : ev 0 1106 [(4, x), (2, 1), (2, 100), (0, (n : Int)), (0, N), (0, w), (0, (np : Int)), (2, a), (2, b), (2, d), (0, B), (0, bs), (0, bm), (0, bc), (2, lt), (0, k), v16, v17, v18, v19, v20, v21, v22, v23, v24] [] R m = ev 0 1109 [(4, x), (2, 1), (2, 100), (0, (n : Int)), (0, N), (0, w), (0, (np : Int)), (2, a), (2, b), (2, d), (0, B), (0, bs), (0, bm), (0, bc), (2, lt), (0, 0), v16, v17, v18, v19, v20, v21, v22, v23, v24] [] R m := by
    simp only [s0_1106, s0_1107, zps_0, zps_1, zps_2, zps_3, zps_9, Option.bind_some, Option.bind_none, Int.reduceEq, Int.reduceNe, Int.reduceLT, Int.reduceLE, Int.reduceNeg, Int.reduceAdd, Int.reduceSub, Int.reduceMul, reduceIte, if_true, if_false, true_and, and_true, false_and, and_false, or_true, true_or, or_false, false_or, not_true_eq_false, not_false_eq_true, ite_not, z_b0, z_b1, z_b01]
  have C2 := k_count2 (R := R) (m := m) hR
  have C6 := k_count6 (R := R) (m := m) hR
  have kd1 : KD 1 = 12 := kGK0
  have fin : ∀ v16 : zV, ev 0 1216 [(4, x), (2, 1), (2, 100), (0, (n : Int)), (0, N), (0, w), (0, (np : Int)), (2, a), (2, b), (2, d), (0, B), (0, bs), (0, bm), (0, bc), (2, lt), (0, 3), v16, v17, v18, v19, v20, v21, v22, v23, v24] [] R m = ev 0 1231 [(4, x), (2, 1), (2, 100), (0, (n : Int)), (0, N), (0, w), (0, (np : Int)), (2, a), (2, b), (2, d), (0, B), (0, bs), (0, bm), (0, bc), (2, lt), (0, m 9 0), (0, m 58 0), v17, v18, v19, v20, v21, v22, v23, v24] [] R m := by
    intro v16
    simp only [s0_1216, s0_1217, s0_1218, s0_1221, s0_1223, s0_1224, s0_1226, s0_1229, zps_0, zps_1, zps_2, zps_3, zps_9, Option.bind_some, Option.bind_none, Int.reduceEq, Int.reduceNe, Int.reduceLT, Int.reduceLE, Int.reduceNeg, Int.reduceAdd, Int.reduceSub, Int.reduceMul, reduceIte, if_true, if_false, true_and, and_true, false_and, and_false, or_true, true_or, or_false, false_or, not_true_eq_false, not_false_eq_true, ite_not, z_b0, z_b1, z_b01, C2, C6, xk1, kd1]
  rw [L0]
  refine zloop (fun r => r = ev 0 1231 [(4, x), (2, 1), (2, 100), (0, (n : Int)), (0, N), (0, w), (0, (np : Int)), (2, a), (2, b), (2, d), (0, B), (0, bs), (0, bm), (0, bc), (2, lt), (0, m 9 0), (0, m 58 0), v17, v18, v19, v20, v21, v22, v23, v24] [] R m) (fun q (v : zV) => ev 0 1109 [(4, x), (2, 1), (2, 100), (0, (n : Int)), (0, N), (0, w), (0, (np : Int)), (2, a), (2, b), (2, d), (0, B), (0, bs), (0, bm), (0, bc), (2, lt), (0, q), v, v17, v18, v19, v20, v21, v22, v23, v24] [] R m) 3 (fun q _ => 0 ≤ q) ?_ ?_ 0 v16 (by decide) (Int.le_refl _)
  · rintro q v hq q0 ih
    have c3 : ¬ 3 ≤ q := by omega
    have zq : zw (q + 1) = q + 1 := zw_i (by omega) (by omega)
    have e : ev 0 1109 [(4, x), (2, 1), (2, 100), (0, (n : Int)), (0, N), (0, w), (0, (np : Int)), (2, a), (2, b), (2, d), (0, B), (0, bs), (0, bm), (0, bc), (2, lt), (0, q), v, v17, v18, v19, v20, v21, v22, v23, v24] [] R m = ev 0 1109 [(4, x), (2, 1), (2, 100), (0, (n : Int)), (0, N), (0, w), (0, (np : Int)), (2, a), (2, b), (2, d), (0, B), (0, bs), (0, bm), (0, bc), (2, lt), (0, q + 1), (0, N), v17, v18, v19, v20, v21, v22, v23, v24] [] R m := by
      rw [s0_1109]
      simp only [s0_1111, s0_1112, c3, if_false, inner q v q0 hq, s0_1210, s0_1213, zps_0, zps_1, zps_2, zps_3, zps_9, Option.bind_some, Option.bind_none, Int.reduceEq, Int.reduceNe, Int.reduceLT, Int.reduceLE, Int.reduceNeg, Int.reduceAdd, Int.reduceSub, Int.reduceMul, reduceIte, if_true, if_false, true_and, and_true, false_and, and_false, or_true, true_or, or_false, false_or, not_true_eq_false, not_false_eq_true, ite_not, z_b0, z_b1, z_b01, zq]
    rw [e]
    exact ih (0, N) (by omega)
  · rintro v _
    rw [← fin v, s0_1109]
    simp only [s0_1111, s0_1112, Int.le_refl, if_true]
end KNOWN
