/-! grounds, heights, uses -/
section KACTS
variable {R m : zM} {c p g : Int}
theorem PIv_0 (h : TG m 2) : PIv m m 2 (m 4) (m 6) 0 := ⟨fun _ _ _ _ _ => rfl, fun _ _ => rfl, rfl, rfl, h.1, h.2.2.1, Int.le_refl _, by omega⟩
theorem k_ground (hR : RK R) (h : SV m c) (hc : c < 1000000) (ha : 0 ≤ m 58 0 ∧ m 58 0 < 60) (hp : 0 ≤ p ∧ p < m 3 2) (hg : 0 ≤ g ∧ g ≤ 2) (hu : m 6 p = 0) : ∃ m' : zM, ev 182 0 [(2, 1), (0, p), (0, g)] [] R m = some ((0, m 4 p), R, m') ∧ SV m' (c + 1) ∧ m' 4 = zrw (m 4) p g ∧ m' 58 0 = m 58 0 + 1 ∧ (∀ b, b ≠ 3 → b ≠ 4 → b ≠ 7 → (b < 58 ∨ 61 < b) → m' b = m b) ∧ ∀ j, j ≠ 3 → m' 3 j = m 3 j := by
  obtain ⟨hT2, hT30, hL68, hGK, hAK, hXK, hWK, hPK, hQK, hNK, hCK⟩ := hR
  have H := tz_has (m := m) (TK_B3 hT2) p
  rw [if_pos hp] at H
  have W := tz_within g 0 2 R m
  rw [if_pos hg] at W
  have CG : ev 115 0 [(2, 2), (0, p)] [] R m = some ((0, if m 6 p = 0 then 1 else 0), R, m) := tz_canGround hT2 (SV_B h) hp
  rw [if_pos hu] at CG
  have AF := tz_afull (R := R) (m := m) hAK
  rw [if_neg (by omega)] at AF
  have KP := tz_keep (R := R) (m := m) hAK ha 0 (m 2 3) p g
  obtain ⟨k59, k60, k58, k61, ko⟩ := zkeep_rows m 0 (m 2 3) p g
  obtain ⟨y, hy⟩ : ∃ y, zkeep m 0 (m 2 3) p g = y := ⟨_, rfl⟩
  rw [hy] at KP k58 ko
  have yo : ∀ b, b < 58 → y b = m b := fun b hb => ko b (by omega)
  have hy' : TG y 2 := TG_c (fun a a0 a1 => yo a (by omega)) h.1
  have hCy : 0 ≤ y 3 3 ∧ y 3 3 < 2000000000 := by rw [yo 3 (by omega)]; have := h.2.1; omega
  have PG : ev 20 0 [(2, 3), (0, p), (0, g), (9, 0)] [] R y = some ((0, y 4 p), R, zgput y 3 p g) := tz_putGround (TK_B3 hT2) hy'.1 hCy (by show 0 ≤ p ∧ p < y 3 2; rw [yo 3 (by omega)]; exact hp) hg
  rw [yo 4 (by omega)] at PG
  have P1 := PIv_g (PIv_0 hy') (p := p) (g := g) (by show 0 ≤ p ∧ p < y 3 2; rw [yo 3 (by omega)]; exact hp) hg
  have hTG := PIv_TG P1 hy'
  obtain ⟨i1, i2, i3, i4, i5, i6, i7, i8⟩ := P1
  have i1 : ∀ b, b ≠ 3 → b ≠ 4 → b ≠ 6 → b ≠ 7 → zgput y 3 p g b = y b := i1
  have i2 : ∀ j, j ≠ 3 → zgput y 3 p g 3 j = y 3 j := i2
  have i3 : zgput y 3 p g 4 = zrw (y 4) p g := i3
  have i4 : zgput y 3 p g 6 = y 6 := i4
  have i7 : y 3 3 ≤ zgput y 3 p g 3 3 := i7
  have i8 : zgput y 3 p g 3 3 ≤ y 3 3 + (0 + 1) := i8
  rw [yo 3 (by omega)] at i7 i8
  have hTG : TG (zgput y 3 p g) 2 := hTG
  obtain ⟨z, hz⟩ : ∃ z, zgput y 3 p g = z := ⟨_, rfl⟩
  rw [hz] at PG hTG i1 i2 i3 i4 i7 i8
  obtain ⟨s1, s2, s3, s4, s5⟩ := h
  refine ⟨z, ?_, ⟨hTG, by omega, ?_, ?_, ?_⟩, ?_, ?_, fun b b3 b4 b7 b58 => ?_, fun j hj => ?_⟩
  · simp only [s182_0, s182_1, s182_4, s182_7, s182_8, s182_11, s182_14, s182_15, s182_16, s182_17, s182_20, s182_23, s182_24, s182_25, s182_26, s182_29, s182_30, s182_33, s182_36, s182_38, s182_39, s182_40, s182_43, s182_46, s182_49, s182_51, s182_52, s182_53, s182_56, s182_57, s182_58, s182_61, s182_64, s182_65, s182_66, s182_69, s182_70, s182_73, s182_76, s182_77, s182_78, s182_81, zps_0, zps_1, zps_2, zps_3, zps_9, Option.bind_some, Option.bind_none, Int.reduceEq, Int.reduceNe, Int.reduceLT, Int.reduceLE, Int.reduceNeg, Int.reduceAdd, Int.reduceSub, Int.reduceMul, reduceIte, if_true, if_false, true_and, and_true, false_and, and_false, or_true, true_or, or_false, false_or, not_true_eq_false, not_false_eq_true, ite_not, z_b0, z_b1, z_b01, rGK0 hGK, rGK1 hGK, rGK2 hGK, rGK3 hGK, rGK4 hGK, rGK5 hGK, rGK6 hGK, rGK7 hGK, rGK8 hGK, rGK9 hGK, kGK0, kd2, kd3, kd9, kd11, r2_0 hT2, r2_1 hT2, r2_2 hT2, kAK0, H, W, CG, AF, KP, PG, if_true, if_false]
  · rw [i1 2 (by decide) (by decide) (by decide) (by decide), yo 2 (by omega)]; exact s3
  · rw [i1 2 (by decide) (by decide) (by decide) (by decide), yo 2 (by omega)]; exact s4
  · rw [i1 11 (by decide) (by decide) (by decide) (by decide), yo 11 (by omega)]; exact s5
  · rw [i3, yo 4 (by omega)]
  · rw [i1 58 (by decide) (by decide) (by decide) (by decide), k58, zrw_at]
  · by_cases b6 : b = 6
    · rw [b6, i4, yo 6 (by omega)]
    · rw [i1 b b3 b4 b6 b7, ko b b58]
  · rw [i2 j hj, yo 3 (by omega)]
theorem k_height (hR : RK R) (h : SV m c) (hc : c < 1000000) (ha : 0 ≤ m 58 0 ∧ m 58 0 < 60) (hp : 0 ≤ p ∧ p < m 3 2) (hg : 0 ≤ g ∧ g ≤ 9) : ∃ m' : zM, ev 183 0 [(2, 1), (0, p), (0, g)] [] R m = some ((0, m 5 p), R, m') ∧ SV m' (c + 1) ∧ m' 5 = zrw (m 5) p g ∧ m' 58 0 = m 58 0 + 1 ∧ (∀ b, b ≠ 3 → b ≠ 5 → (b < 58 ∨ 61 < b) → m' b = m b) ∧ ∀ j, j ≠ 3 → m' 3 j = m 3 j := by
  obtain ⟨hT2, hT30, hL68, hGK, hAK, hXK, hWK, hPK, hQK, hNK, hCK⟩ := hR
  have H := tz_has (m := m) (TK_B3 hT2) p
  rw [if_pos hp] at H
  have W := tz_within g 0 9 R m
  rw [if_pos hg] at W
  have AF := tz_afull (R := R) (m := m) hAK
  rw [if_neg (by omega)] at AF
  have KP := tz_keep (R := R) (m := m) hAK ha 1 (m 2 3) p g
  obtain ⟨k59, k60, k58, k61, ko⟩ := zkeep_rows m 1 (m 2 3) p g
  obtain ⟨y, hy⟩ : ∃ y, zkeep m 1 (m 2 3) p g = y := ⟨_, rfl⟩
  rw [hy] at KP k58 ko
  have yo : ∀ b, b < 58 → y b = m b := fun b hb => ko b (by omega)
  have hy' : TG y 2 := TG_c (fun a a0 a1 => yo a (by omega)) h.1
  have hCy : 0 ≤ y 3 3 ∧ y 3 3 < 2000000000 := by rw [yo 3 (by omega)]; have := h.2.1; omega
  have PG : ev 23 0 [(2, 3), (0, p), (0, g), (9, 0)] [] R y = some ((0, y 5 p), R, zhput y 3 p g) := tz_putHeight (TK_B3 hT2) hy'.1 hCy (by show 0 ≤ p ∧ p < y 3 2; rw [yo 3 (by omega)]; exact hp) hg
  rw [yo 5 (by omega)] at PG
  obtain ⟨r5, r3, ro⟩ := zhput_rows y 3 p g
  simp only [Int.reduceAdd] at r5 ro
  obtain ⟨z, hz⟩ : ∃ z, zhput y 3 p g = z := ⟨_, rfl⟩
  rw [hz] at PG r5 r3 ro
  rw [yo 5 (by omega)] at r5
  rw [yo 3 (by omega)] at r3
  have zo : ∀ b, b ≠ 3 → b ≠ 5 → (b < 58 ∨ 61 < b) → z b = m b := fun b b3 b5 b58 => by rw [ro b (by omega) (by omega), ko b b58]
  have z3 : ∀ j, j ≠ 3 → z 3 j = m 3 j := fun j hj => by rw [r3, zrw_ne hj]
  obtain ⟨⟨hV, hN, hT, hL⟩, s2, s3, s4, s5⟩ := h
  have hV3 : BV m 3 := hV
  obtain ⟨v1, v2, v3, v4, v5, v6, v7, v8⟩ := hV3
  refine ⟨z, ?_, ⟨⟨?_, ?_, ?_, ?_⟩, ?_, ?_, ?_, ?_⟩, r5, ?_, zo, z3⟩
  · simp only [s183_0, s183_1, s183_4, s183_7, s183_8, s183_11, s183_14, s183_15, s183_16, s183_18, s183_21, s183_24, s183_25, s183_26, s183_27, s183_30, s183_33, s183_36, s183_38, s183_39, s183_40, s183_43, s183_44, s183_45, s183_48, s183_51, s183_52, s183_53, s183_56, s183_57, s183_60, s183_63, s183_64, s183_65, s183_68, zps_0, zps_1, zps_2, zps_3, zps_9, Option.bind_some, Option.bind_none, Int.reduceEq, Int.reduceNe, Int.reduceLT, Int.reduceLE, Int.reduceNeg, Int.reduceAdd, Int.reduceSub, Int.reduceMul, reduceIte, if_true, if_false, true_and, and_true, false_and, and_false, or_true, true_or, or_false, false_or, not_true_eq_false, not_false_eq_true, ite_not, z_b0, z_b1, z_b01, rGK0 hGK, rGK1 hGK, rGK2 hGK, rGK3 hGK, rGK4 hGK, rGK5 hGK, rGK6 hGK, rGK7 hGK, rGK8 hGK, rGK9 hGK, kGK0, kd2, kd3, kd9, kd11, r2_0 hT2, r2_1 hT2, r2_2 hT2, kAK0, H, W, AF, KP, PG, if_true, if_false]
  · show BV z 3
    unfold BV
    rw [z3 0 (by decide), z3 1 (by decide), z3 2 (by decide)]
    refine ⟨v1, v2, v3, v4, v5, v6, v7, fun q q0 q1 => ?_⟩
    simp only [Int.reduceAdd]
    rw [zo 4 (by decide) (by decide) (by omega), zo 6 (by decide) (by decide) (by omega), r5, zrw_if]
    obtain ⟨a1, a2, a3⟩ := v8 q q0 q1
    simp only [Int.reduceAdd] at a1 a2 a3
    refine ⟨a1, ?_, a3⟩
    split
    · exact hg
    · exact a2
  · exact NV_c (o := 3) (by rw [z3 2 (by decide)]) (by rw [z3 0 (by decide)]) (zo 8 (by decide) (by decide) (by omega)) hN
  · intro i q i0 i1 q0 q1
    have := hT i q i0 i1 q0 q1
    simp only [Int.reduceAdd] at this ⊢
    rw [zo 7 (by decide) (by decide) (by omega), zo 4 (by decide) (by decide) (by omega), zo 6 (by decide) (by decide) (by omega)]
    have e := z3 2 (by decide)
    simp only [e]
    exact this
  · show LW (z 9 0) (z 10)
    rw [zo 9 (by decide) (by decide) (by omega), zo 10 (by decide) (by decide) (by omega)]
    exact hL
  · rw [r3, zrw_at]; omega
  · rw [zo 2 (by decide) (by decide) (by omega)]; exact s3
  · rw [zo 2 (by decide) (by decide) (by omega)]; exact s4
  · rw [zo 11 (by decide) (by decide) (by omega)]; exact s5
  · rw [ro 58 (by decide) (by decide), k58, zrw_at]
theorem k_use (hR : RK R) (h : SV m c) (ha : 0 ≤ m 58 0 ∧ m 58 0 < 60) (hp : 0 ≤ p ∧ p < m 3 2) (hg : 1 ≤ g ∧ g ≤ 3) (h4 : m 4 p = 0) : ∃ m' : zM, ev 184 0 [(2, 1), (0, p), (0, g)] [] R m = some ((0, m 6 p), R, m') ∧ SV m' c ∧ m' 6 = zrw (m 6) p g ∧ m' 58 0 = m 58 0 + 1 ∧ (∀ b, b ≠ 6 → b ≠ 7 → (b < 58 ∨ 61 < b) → m' b = m b) := by
  obtain ⟨hT2, hT30, hL68, hGK, hAK, hXK, hWK, hPK, hQK, hNK, hCK⟩ := hR
  have H := tz_has (m := m) (TK_B3 hT2) p
  rw [if_pos hp] at H
  have W := tz_within g 0 3 R m
  rw [if_pos (by omega)] at W
  have CU : ev 116 0 [(2, 2), (0, p), (0, g)] [] R m = some ((0, if g = 0 ∨ m 4 p = 0 then 1 else 0), R, m) := tz_canUse hT2 (SV_B h) g hp
  rw [if_pos (Or.inr h4)] at CU
  have AF := tz_afull (R := R) (m := m) hAK
  rw [if_neg (by omega)] at AF
  have KP := tz_keep (R := R) (m := m) hAK ha 2 (m 2 3) p g
  obtain ⟨k59, k60, k58, k61, ko⟩ := zkeep_rows m 2 (m 2 3) p g
  obtain ⟨y, hy⟩ : ∃ y, zkeep m 2 (m 2 3) p g = y := ⟨_, rfl⟩
  rw [hy] at KP k58 ko
  have yo : ∀ b, b < 58 → y b = m b := fun b hb => ko b (by omega)
  have hy' : TG y 2 := TG_c (fun a a0 a1 => yo a (by omega)) h.1
  obtain ⟨s1, s2, s3, s4, s5⟩ := h
  obtain ⟨m1, e1, h1⟩ := tz_tputUse (R := R) (m := y) (p := p) (g := g) hT2 hy'.1 (by show 0 ≤ y 11 0 ∧ y 11 0 ≤ 20; rw [yo 11 (by omega), s5]; omega) (by show 0 ≤ p ∧ p < y 3 2; rw [yo 3 (by omega)]; exact hp) (by omega)
  simp only [Int.reduceAdd] at e1 h1
  have hm1 : m1 = y := by
    rcases h1 with h1 | ⟨r, r0, r1, -⟩
    · exact h1.2
    · rw [yo 11 (by omega), s5] at r1; omega
  subst hm1
  rw [yo 6 (by omega)] at e1
  have P1 := PIv_u (PIv_0 hy') (p := p) (g := g) (by show 0 ≤ p ∧ p < m1 3 2; rw [yo 3 (by omega)]; exact hp) (by omega)
  have hTG : TG (zuput m1 3 p g) 2 := PIv_TG P1 hy'
  obtain ⟨i1, i2, i3, i4, i5, i6, i7, i8⟩ := P1
  obtain ⟨u3, u4, ur⟩ := zuput_rows m1 3 p g
  simp only [Int.reduceAdd] at u3 u4 ur
  obtain ⟨z, hz⟩ : ∃ z, zuput m1 3 p g = z := ⟨_, rfl⟩
  rw [hz] at e1 hTG u3 u4 ur
  have zo : ∀ b, b ≠ 6 → b ≠ 7 → (b < 58 ∨ 61 < b) → z b = m b := fun b b6 b7 b58 => by rw [ur b b6 b7, ko b b58]
  refine ⟨z, ?_, ⟨hTG, ?_, ?_, ?_, ?_⟩, ?_, ?_, zo⟩
  · simp only [s184_0, s184_1, s184_4, s184_7, s184_8, s184_11, s184_14, s184_15, s184_16, s184_17, s184_20, s184_23, s184_24, s184_25, s184_26, s184_29, s184_30, s184_31, s184_34, s184_37, s184_39, s184_40, s184_41, s184_44, s184_47, s184_50, s184_52, s184_53, s184_54, s184_57, s184_58, s184_59, s184_62, s184_65, s184_66, s184_67, s184_70, s184_71, s184_74, s184_75, s184_76, s184_79, zps_0, zps_1, zps_2, zps_3, zps_9, Option.bind_some, Option.bind_none, Int.reduceEq, Int.reduceNe, Int.reduceLT, Int.reduceLE, Int.reduceNeg, Int.reduceAdd, Int.reduceSub, Int.reduceMul, reduceIte, if_true, if_false, true_and, and_true, false_and, and_false, or_true, true_or, or_false, false_or, not_true_eq_false, not_false_eq_true, ite_not, z_b0, z_b1, z_b01, rGK0 hGK, rGK1 hGK, rGK2 hGK, rGK3 hGK, rGK4 hGK, rGK5 hGK, rGK6 hGK, rGK7 hGK, rGK8 hGK, rGK9 hGK, kGK0, kd2, kd3, kd9, kd11, r2_0 hT2, r2_1 hT2, r2_2 hT2, kAK0, H, W, CU, AF, KP, e1, if_true, if_false]
  · rw [zo 3 (by decide) (by decide) (by omega)]; exact s2
  · rw [zo 2 (by decide) (by decide) (by omega)]; exact s3
  · rw [zo 2 (by decide) (by decide) (by omega)]; exact s4
  · rw [zo 11 (by decide) (by decide) (by omega)]; exact s5
  · rw [u3, yo 6 (by omega)]
  · rw [ur 58 (by decide) (by decide), k58, zrw_at]
theorem k_useN (hR : RK R) (h : SV m c) (hp : 0 ≤ p ∧ p < m 3 2) (hg : 1 ≤ g ∧ g ≤ 3) (h4 : m 4 p ≠ 0) : ev 184 0 [(2, 1), (0, p), (0, g)] [] R m = some ((0, -2), R, m) := by
  obtain ⟨hT2, hT30, hL68, hGK, hAK, hXK, hWK, hPK, hQK, hNK, hCK⟩ := hR
  have H := tz_has (m := m) (TK_B3 hT2) p
  rw [if_pos hp] at H
  have W := tz_within g 0 3 R m
  rw [if_pos (by omega)] at W
  have CU : ev 116 0 [(2, 2), (0, p), (0, g)] [] R m = some ((0, if g = 0 ∨ m 4 p = 0 then 1 else 0), R, m) := tz_canUse hT2 (SV_B h) g hp
  rw [if_neg (by omega)] at CU
  simp only [s184_0, s184_1, s184_4, s184_7, s184_8, s184_11, s184_14, s184_15, s184_16, s184_17, s184_20, s184_23, s184_24, s184_25, s184_26, s184_29, s184_30, s184_31, s184_34, s184_37, s184_39, s184_40, s184_41, s184_44, s184_47, s184_50, s184_52, s184_53, s184_54, s184_57, s184_58, s184_59, s184_62, s184_65, s184_66, s184_67, s184_70, s184_71, s184_74, s184_75, s184_76, s184_79, zps_0, zps_1, zps_2, zps_3, zps_9, Option.bind_some, Option.bind_none, Int.reduceEq, Int.reduceNe, Int.reduceLT, Int.reduceLE, Int.reduceNeg, Int.reduceAdd, Int.reduceSub, Int.reduceMul, reduceIte, if_true, if_false, true_and, and_true, false_and, and_false, or_true, true_or, or_false, false_or, not_true_eq_false, not_false_eq_true, ite_not, z_b0, z_b1, z_b01, rGK0 hGK, rGK1 hGK, rGK2 hGK, rGK3 hGK, rGK4 hGK, rGK5 hGK, rGK6 hGK, rGK7 hGK, rGK8 hGK, rGK9 hGK, kGK0, kd2, kd3, kd9, kd11, r2_0 hT2, r2_1 hT2, r2_2 hT2, H, W, CU, if_true, if_false]
end KACTS
