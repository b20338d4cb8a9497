/-! the law, from its start to its end -/
section LAWALL
variable {R m : zM} {x w h N c : Int} {n : Nat} {KK : Nat → Int → Int}
/-- three rows for the plans -/
theorem l_rows (hLS : LSr R w h KK n) (hc : R 0 0 = c) (h102 : 102 ≤ c ∧ c < 9000) : ∃ (R' m' : zM), ev 0 105 [(4, x), (2, 1), (2, 100), (0, (n : Int)), (0, N), (0, w), (0, 4), (9, 0), (9, 0), (9, 0), (9, 0), (9, 0), (9, 0), (9, 0), (9, 0), (9, 0), (9, 0), (9, 0), (9, 0), (9, 0), (9, 0), (9, 0), (9, 0), (9, 0), (9, 0)] [] R m = ev 0 129 [(4, x), (2, 1), (2, 100), (0, (n : Int)), (0, N), (0, w), (0, 0), (2, c + 1), (2, c + 2), (2, c + 3), (0, 0), (9, 0), (9, 0), (9, 0), (9, 0), (9, 0), (9, 0), (9, 0), (9, 0), (9, 0), (9, 0), (9, 0), (9, 0), (9, 0), (9, 0)] [] R' m' ∧ RE R R' ∧ R' 0 0 = c + 3 ∧ R' 0 1 = R 0 1 + 24 ∧ IR R' (c + 1) 8 ∧ IR R' (c + 2) 8 ∧ IR R' (c + 3) 8 ∧ ∀ b, b ≤ c → m' b = m b := by
  obtain ⟨R1, hR1⟩ : ∃ R1, znX R 20 8 = R1 := ⟨_, rfl⟩
  obtain ⟨R2, hR2⟩ : ∃ R2, znX R1 20 8 = R2 := ⟨_, rfl⟩
  obtain ⟨R3, hR3⟩ : ∃ R3, znX R2 20 8 = R3 := ⟨_, rfl⟩
  have n1 : R1 0 0 = c + 1 := by rw [← hR1, znX_0, hc]
  have n2 : R2 0 0 = c + 2 := by rw [← hR2, znX_0, n1]; omega
  have n3 : R3 0 0 = c + 3 := by rw [← hR3, znX_0, n2]; omega
  have s3 : R3 0 1 = R 0 1 + 24 := by rw [← hR3, znX_1, ← hR2, znX_1, ← hR1, znX_1]; omega
  have g0 : 99 ≤ R 0 0 := by omega
  have g1 : 99 ≤ R1 0 0 := by omega
  have g2 : 99 ≤ R2 0 0 := by omega
  have E1 : RE R R1 := by rw [← hR1]; exact zX_E g0 20 8
  have E2 : RE R1 R2 := by rw [← hR2]; exact zX_E g1 20 8
  have E3 : RE R2 R3 := by rw [← hR3]; exact zX_E g2 20 8
  have l1 : c + 1 ≤ R1 0 0 := by omega
  have l1' : c + 1 ≤ R2 0 0 := by omega
  have l2 : c + 2 ≤ R2 0 0 := by omega
  have e2 : c + 1 + 1 = c + 2 := by omega
  have e3 : c + 2 + 1 = c + 3 := by omega
  have I1 : IR R1 (c + 1) 8 := ⟨by rw [← hR1, ← hc]; exact zX_k g0 20 8, by rw [← hR1, ← hc]; exact zX_l g0 20 8⟩
  have I2 : IR R2 (c + 2) 8 := ⟨by rw [← hR2, ← e2, ← n1]; exact zX_k g1 20 8, by rw [← hR2, ← e2, ← n1]; exact zX_l g1 20 8⟩
  have I3 : IR R3 (c + 3) 8 := ⟨by rw [← hR3, ← e3, ← n2]; exact zX_k g2 20 8, by rw [← hR3, ← e3, ← n2]; exact zX_l g2 20 8⟩
  have hz1 : znl R = c + 1 := by unfold znl; rw [hc]
  have hz2 : znl R1 = c + 2 := by unfold znl; rw [n1, e2]
  have hz3 : znl R2 = c + 3 := by unfold znl; rw [n2, e3]
  have kd1 : KD (c + 1) = 0 := KD_big (by omega)
  have kd2 : KD (c + 2) = 0 := KD_big (by omega)
  have kd3 : KD (c + 3) = 0 := KD_big (by omega)
  have r0 : 0 ≤ R 0 0 := by omega
  have r1 : 0 ≤ R1 0 0 := by omega
  have r2 : 0 ≤ R2 0 0 := by omega
  obtain ⟨m1, hm1⟩ : ∃ m1, zrow m (c + 1) 0 = m1 := ⟨_, rfl⟩
  obtain ⟨m2, hm2⟩ : ∃ m2, zrow m1 (c + 2) 0 = m2 := ⟨_, rfl⟩
  obtain ⟨m3, hm3⟩ : ∃ m3, zrow m2 (c + 3) 0 = m3 := ⟨_, rfl⟩
  refine ⟨R3, m3, ?_, RE_tr (RE_tr E1 E2) E3, n3, s3, IR_E E3 l1' (IR_E E2 l1 I1), IR_E E3 l2 I2, I3, fun b hb => by rw [← hm3, zrow_ne (by omega), ← hm2, zrow_ne (by omega), ← hm1, zrow_ne (by omega)]⟩
  simp only [s0_105, s0_106, s0_108, s0_110, s0_112, s0_114, s0_116, s0_118, s0_120, s0_122, s0_124, s0_126, s0_127, zps_0, zps_1, zps_2, zps_3, zps_9, Option.bind_some, Option.bind_none, Int.reduceEq, Int.reduceNe, Int.reduceLT, Int.reduceLE, Int.reduceNeg, Int.reduceAdd, Int.reduceSub, Int.reduceMul, reduceIte, if_true, if_false, true_and, and_true, false_and, and_false, or_true, true_or, or_false, false_or, not_true_eq_false, not_false_eq_true, ite_not, z_b0, z_b1, z_b01, hz1, kd1, r0, hR1, hm1, hz2, kd2, r1, hR2, hm2, hz3, kd3, r2, hR3, hm3, and_self]
/-- the row of what was told -/
theorem l_told {np : Nat} {a b d B bs bm bc : Int} {v15 v16 v17 v18 v19 v20 v21 v22 v23 v24 : zV} (hc : R 0 0 = c) (h102 : 102 ≤ c ∧ c < 9000) : ∃ (R' m' : zM), ev 0 936 [(4, x), (2, 1), (2, 100), (0, (n : Int)), (0, N), (0, w), (0, (np : Int)), (2, a), (2, b), (2, d), (0, B), (0, bs), (0, bm), (0, bc), (0, 3), v15, v16, v17, v18, v19, v20, v21, v22, v23, v24] [] R m = ev 0 945 [(4, x), (2, 1), (2, 100), (0, (n : Int)), (0, N), (0, w), (0, (np : Int)), (2, a), (2, b), (2, d), (0, B), (0, bs), (0, bm), (0, bc), (2, c + 1), (0, 0), v16, v17, v18, v19, v20, v21, v22, v23, v24] [] R' m' ∧ RE R R' ∧ R' 0 0 = c + 1 ∧ R' 0 1 = R 0 1 + 64 ∧ IR R' (c + 1) 64 ∧ (∀ q, m' (c + 1) q = 0) ∧ ∀ b, b ≠ c + 1 → m' b = m b := by
  obtain ⟨R1, hR1⟩ : ∃ R1, znX R 20 64 = R1 := ⟨_, rfl⟩
  have n1 : R1 0 0 = c + 1 := by rw [← hR1, znX_0, hc]
  have s1 : R1 0 1 = R 0 1 + 64 := by rw [← hR1, znX_1]
  have g0 : 99 ≤ R 0 0 := by omega
  have E1 : RE R R1 := by rw [← hR1]; exact zX_E g0 20 64
  have I1 : IR R1 (c + 1) 64 := ⟨by rw [← hR1, ← hc]; exact zX_k g0 20 64, by rw [← hR1, ← hc]; exact zX_l g0 20 64⟩
  have hz1 : znl R = c + 1 := by unfold znl; rw [hc]
  have kd1 : KD (c + 1) = 0 := KD_big (by omega)
  have r0 : 0 ≤ R 0 0 := by omega
  obtain ⟨m1, hm1⟩ : ∃ m1, zrow m (c + 1) 0 = m1 := ⟨_, rfl⟩
  refine ⟨R1, m1, ?_, E1, n1, s1, I1, fun q => by rw [← hm1, zrow_at], fun b hb => by rw [← hm1, zrow_ne hb]⟩
  simp only [s0_936, s0_938, s0_940, s0_942, s0_943, zps_0, zps_1, zps_2, zps_3, zps_9, Option.bind_some, Option.bind_none, Int.reduceEq, Int.reduceNe, Int.reduceLT, Int.reduceLE, Int.reduceNeg, Int.reduceAdd, Int.reduceSub, Int.reduceMul, reduceIte, if_true, if_false, true_and, and_true, false_and, and_false, or_true, true_or, or_false, false_or, not_true_eq_false, not_false_eq_true, ite_not, z_b0, z_b1, z_b01, hz1, kd1, r0, hR1, hm1, and_self]
end LAWALL
