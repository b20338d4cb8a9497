/-! the tape: bytes fed, its end -/
section KTAPE
variable {R m : zM} {c v L n : Int}
theorem k_feed (hR : RK R) (hL : m 63 0 = L) (h0 : 0 ≤ L ∧ L + 8 ≤ 320) (v : Int) : ∃ m' : zM, ev 186 0 [(2, 1), (1, v), (8, 0)] [] R m = some ((0, L + 8), R, m') ∧ m' 63 0 = L + 8 ∧ (∀ i, 0 ≤ i → i < 8 → m' 64 (L + i) = tByte v (56 - 8 * i)) ∧ (∀ j, ¬ (L ≤ j ∧ j < L + 8) → m' 64 j = m 64 j) ∧ (∀ b, b ≠ 63 → b ≠ 64 → m' b = m b) := by
  obtain ⟨hT2, hT30, hL68, hGK, hAK, hXK, hWK, hPK, hQK, hNK, hCK⟩ := hR
  obtain ⟨f, A, a1, a2⟩ := tz_append (R := R) (m := m) hXK hL h0 v
  obtain ⟨z, hz⟩ : ∃ z, zpr (zpr m 64 f) 63 (zrw (m 63) 0 (L + 8)) = z := ⟨_, rfl⟩
  rw [hz] at A
  have z63 : z 63 = zrw (m 63) 0 (L + 8) := by rw [← hz, zpr_at]
  have z630 : z 63 0 = L + 8 := by rw [z63, zrw_at]
  have z64 : z 64 = f := by rw [← hz, zpr_ne (by decide), zpr_at]
  refine ⟨z, ?_, z630, fun i i0 i1 => by rw [z64]; exact a1 i i0 i1, fun j hj => by rw [z64]; exact a2 j hj, fun b b1 b2 => by rw [← hz, zpr_ne b1, zpr_ne b2]⟩
  simp only [s186_0, s186_1, s186_4, s186_5, s186_8, s186_11, s186_12, s186_15, s186_18, s186_21, s186_23, zps_0, zps_1, zps_2, zps_3, zps_9, Option.bind_some, Option.bind_none, Int.reduceEq, Int.reduceNe, Int.reduceLT, Int.reduceLE, Int.reduceNeg, Int.reduceAdd, Int.reduceSub, Int.reduceMul, reduceIte, if_true, if_false, true_and, and_true, false_and, and_false, or_true, true_or, or_false, false_or, not_true_eq_false, not_false_eq_true, ite_not, z_b0, z_b1, z_b01, rGK0 hGK, rGK1 hGK, rGK2 hGK, rGK3 hGK, rGK4 hGK, rGK5 hGK, rGK6 hGK, rGK7 hGK, rGK8 hGK, rGK9 hGK, kGK0, rXK0 hXK, rXK1 hXK, rXK2 hXK, rXK3 hXK, kXK0, kXK1, kXK2, kXK3, kXK4, kXK5, kXK6, kXK7, kXK8, A, z630, if_true, if_false]
theorem k_end (hR : RK R) (hL : m 63 0 = L) (hn : 0 ≤ n ∧ n ≤ L) : ev 187 0 [(2, 1), (0, n), (9, 0)] [] R m = some ((0, L), R, zpr m 63 (zrw (m 63) 0 n)) := by
  obtain ⟨hT2, hT30, hL68, hGK, hAK, hXK, hWK, hPK, hQK, hNK, hCK⟩ := hR
  have W := tz_within n 0 L R m
  rw [if_pos hn] at W
  simp only [s187_0, s187_1, s187_2, s187_3, s187_6, s187_9, s187_12, s187_15, s187_16, s187_17, s187_18, s187_21, s187_24, s187_25, s187_26, s187_29, s187_30, s187_33, s187_34, zps_0, zps_1, zps_2, zps_3, zps_9, Option.bind_some, Option.bind_none, Int.reduceEq, Int.reduceNe, Int.reduceLT, Int.reduceLE, Int.reduceNeg, Int.reduceAdd, Int.reduceSub, Int.reduceMul, reduceIte, if_true, if_false, true_and, and_true, false_and, and_false, or_true, true_or, or_false, false_or, not_true_eq_false, not_false_eq_true, ite_not, z_b0, z_b1, z_b01, rGK0 hGK, rGK1 hGK, rGK2 hGK, rGK3 hGK, rGK4 hGK, rGK5 hGK, rGK6 hGK, rGK7 hGK, rGK8 hGK, rGK9 hGK, kGK0, rXK0 hXK, rXK1 hXK, rXK2 hXK, rXK3 hXK, kXK0, kXK1, kXK2, kXK3, kXK4, kXK5, kXK6, kXK7, kXK8, hL, W, zup_zpr, if_true, if_false]
/-- laws that are refused: nothing but the tape and what reading it used is changed -/
theorem k_lawsN (hR : RK R) (ha : m 58 0 < 60) (hn : m 63 0 = n) (h320 : 0 ≤ n ∧ n ≤ 320) {e : Int × Int} (hp : pAll (m 64) n 322 0 0 (m 69) = .error e) : ∃ m' : zM, ev 188 0 [(2, 1), (9, 0)] [] R m = some ((0, zw (-10 - e.2)), R, m') ∧ m' 63 0 = 0 ∧ m' 63 1 = e.1 ∧ (∀ b, b < 63 ∨ b = 64 ∨ 69 < b → m' b = m b) := by
  have hR' := hR
  obtain ⟨hT2, hT30, hL68, hGK, hAK, hXK, hWK, hPK, hQK, hNK, hCK⟩ := hR
  have AF := tz_afull (R := R) (m := m) hAK
  rw [if_neg (by omega)] at AF
  have RI := tz_readInto (R := R) hXK hL68 (m := m) rfl hn h320
  rw [hp] at RI
  obtain ⟨m1, r1, ro, r631, r632⟩ := RI
  obtain ⟨z, hz⟩ : ∃ z, zpr m1 63 (zrw (m1 63) 0 0) = z := ⟨_, rfl⟩
  have z63 : z 63 = zrw (m1 63) 0 0 := by rw [← hz, zpr_at]
  have z632 : z 63 2 = e.2 := by rw [z63, zrw_ne (by decide), r632]
  refine ⟨z, ?_, by rw [z63, zrw_at], by rw [z63, zrw_ne (by decide), r631], fun b hb => by rw [← hz, zpr_ne (by omega)]; exact ro b hb⟩
  simp only [s188_0, s188_1, s188_4, s188_7, s188_10, s188_12, s188_13, s188_14, s188_17, s188_18, s188_21, s188_24, s188_25, s188_26, s188_29, s188_30, s188_33, s188_34, s188_37, s188_39, s188_40, s188_43, s188_46, s188_47, s188_48, s188_49, s188_52, s188_53, s188_56, s188_59, s188_60, s188_63, s188_66, s188_67, s188_70, s188_73, s188_74, s188_77, s188_78, s188_81, s188_82, s188_85, s188_88, s188_91, zps_0, zps_1, zps_2, zps_3, zps_9, Option.bind_some, Option.bind_none, Int.reduceEq, Int.reduceNe, Int.reduceLT, Int.reduceLE, Int.reduceNeg, Int.reduceAdd, Int.reduceSub, Int.reduceMul, reduceIte, if_true, if_false, true_and, and_true, false_and, and_false, or_true, true_or, or_false, false_or, not_true_eq_false, not_false_eq_true, ite_not, z_b0, z_b1, z_b01, rGK0 hGK, rGK1 hGK, rGK2 hGK, rGK3 hGK, rGK4 hGK, rGK5 hGK, rGK6 hGK, rGK7 hGK, rGK8 hGK, rGK9 hGK, kGK0, kd2, kd3, kd9, kd11, r2_0 hT2, r2_1 hT2, r2_2 hT2, kAK0, kXK0, AF, r1, zup_zpr, hz, z632, if_true, if_false]
end KTAPE
