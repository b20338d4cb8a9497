/-! plans -/
section KPLANS
variable {R m : zM} {c p g N B : Int} {n : Nat}
theorem k_plan (hR : RK R) (h : SV m c) (hP : PLs m n (m 3 2)) (hn : n < 6) (hp : 0 ≤ p ∧ p < m 3 2) (hg : 0 ≤ g ∧ g ≤ 3) (hB : 1 ≤ B ∧ B ≤ 99) (hf : m 4 p = 0 ∧ m 6 p = 0) : ∃ m' : zM, ev 212 0 [(2, 1), (0, p), (0, g), (0, B)] [] R m = some ((0, (n : Int)), R, m') ∧ m' 88 = zrw (m 88) n p ∧ m' 89 = zrw (m 89) n g ∧ m' 90 = zrw (m 90) n B ∧ PLs m' (n + 1) (m 3 2) ∧ (∀ b, b < 87 ∨ 90 < b → m' b = m b) := by
  obtain ⟨hT2, hT30, hL68, hGK, hAK, hXK, hWK, hPK, hQK, hNK, hCK⟩ := hR
  have F := tz_isFree (R := R) (TK_B3 hT2) (SV_B h) p
  simp only [Int.reduceAdd] at F
  rw [if_pos ⟨hp, hf⟩] at F
  have W1 := tz_within g 0 3 R m
  have W2 := tz_within B 1 99 R m
  rw [if_pos (by omega)] at W1
  rw [if_pos (by omega)] at W2
  obtain ⟨q1, q2, q3⟩ := hP
  have A := tz_pladd (R := R) (m := m) hQK (n := n) q1 (by omega) p g B
  have c6 : (n : Int) < 6 := by omega
  obtain ⟨z, hz⟩ : ∃ z, zpr (zpr (zpr (zpr m 88 (zrw (m 88) n p)) 89 (zrw (m 89) n g)) 90 (zrw (m 90) n B)) 87 (zrw (m 87) 0 (n + 1)) = z := ⟨_, rfl⟩
  rw [hz] at A
  have z87 : z 87 = zrw (m 87) 0 (n + 1) := by rw [← hz, zpr_at]
  have z88 : z 88 = zrw (m 88) n p := by rw [← hz, zpr_ne (by decide), zpr_ne (by decide), zpr_ne (by decide), zpr_at]
  have z89 : z 89 = zrw (m 89) n g := by rw [← hz, zpr_ne (by decide), zpr_ne (by decide), zpr_at]
  have z90 : z 90 = zrw (m 90) n B := by rw [← hz, zpr_ne (by decide), zpr_at]
  refine ⟨z, ?_, z88, z89, z90, ⟨by rw [z87, zrw_at]; rfl, by omega, fun k k0 k1 => ?_⟩, fun b hb => by rw [← hz, zpr_ne (by omega), zpr_ne (by omega), zpr_ne (by omega), zpr_ne (by omega)]⟩
  · simp only [s212_0, s212_1, s212_4, s212_7, s212_8, s212_11, s212_14, s212_15, s212_16, s212_17, s212_20, s212_23, s212_24, s212_25, s212_27, s212_30, s212_33, s212_34, s212_35, s212_36, s212_39, s212_42, s212_44, s212_47, s212_49, s212_52, s212_53, s212_56, s212_57, s212_58, s212_59, s212_62, zps_0, zps_1, zps_2, zps_3, zps_9, Option.bind_some, Option.bind_none, Int.reduceEq, Int.reduceNe, Int.reduceLT, Int.reduceLE, Int.reduceNeg, Int.reduceAdd, Int.reduceSub, Int.reduceMul, reduceIte, if_true, if_false, true_and, and_true, false_and, and_false, or_true, true_or, or_false, false_or, not_true_eq_false, not_false_eq_true, ite_not, z_b0, z_b1, z_b01, rGK0 hGK, rGK1 hGK, rGK2 hGK, rGK3 hGK, rGK4 hGK, rGK5 hGK, rGK6 hGK, rGK7 hGK, rGK8 hGK, rGK9 hGK, kGK0, kd2, kd3, kd9, kd11, r2_0 hT2, r2_1 hT2, r2_2 hT2, kQK0, q1, F, W1, W2, c6, A, if_true, if_false]
  · rw [z88, z89, z90, zrw_if, zrw_if, zrw_if]
    by_cases e : k = n
    · rw [if_pos e, if_pos e, if_pos e]; exact ⟨hp, hg, hB⟩
    · rw [if_neg e, if_neg e, if_neg e]; exact q3 k k0 (by omega)
theorem k_planN (hR : RK R) (h : SV m c) (hp : 0 ≤ p ∧ p < m 3 2) (hf : ¬ (m 4 p = 0 ∧ m 6 p = 0)) (g B : Int) : ev 212 0 [(2, 1), (0, p), (0, g), (0, B)] [] R m = some ((0, -1), R, m) := by
  obtain ⟨hT2, hT30, hL68, hGK, hAK, hXK, hWK, hPK, hQK, hNK, hCK⟩ := hR
  have F := tz_isFree (R := R) (TK_B3 hT2) (SV_B h) p
  simp only [Int.reduceAdd] at F
  rw [if_neg (fun q => hf q.2)] at F
  simp only [s212_0, s212_1, s212_4, s212_7, s212_8, s212_11, s212_14, s212_15, s212_16, s212_17, s212_20, s212_23, s212_24, s212_25, s212_27, s212_30, s212_33, s212_34, s212_35, s212_36, s212_39, s212_42, s212_44, s212_47, s212_49, s212_52, s212_53, s212_56, s212_57, s212_58, s212_59, s212_62, zps_0, zps_1, zps_2, zps_3, zps_9, Option.bind_some, Option.bind_none, Int.reduceEq, Int.reduceNe, Int.reduceLT, Int.reduceLE, Int.reduceNeg, Int.reduceAdd, Int.reduceSub, Int.reduceMul, reduceIte, if_true, if_false, true_and, and_true, false_and, and_false, or_true, true_or, or_false, false_or, not_true_eq_false, not_false_eq_true, ite_not, z_b0, z_b1, z_b01, rGK0 hGK, rGK1 hGK, rGK2 hGK, rGK3 hGK, rGK4 hGK, rGK5 hGK, rGK6 hGK, rGK7 hGK, rGK8 hGK, rGK9 hGK, kGK0, kd2, kd3, kd9, kd11, r2_0 hT2, r2_1 hT2, r2_2 hT2, F, if_true, if_false]
/-- the worths of a board, all of them together -/
theorem k_chosen3 (hR : RK R) (h : SV m c) (hB : 0 ≤ B ∧ B ≤ 999) : ev 213 0 [(2, 1), (0, B), (0, 3)] [] R m = some ((0, pSW m 2 (m 4) (m 6)), R, m) := by
  obtain ⟨hT2, hT30, hL68, hGK, hAK, hXK, hWK, hPK, hQK, hNK, hCK⟩ := hR
  have W1 := tz_within B 0 999 R m
  have W2 := tz_within 3 0 3 R m
  rw [if_pos hB] at W1
  rw [if_pos (by omega)] at W2
  have S := tz_tsow (R := R) hT2 h.1
  simp only [Int.reduceAdd] at S
  simp only [s213_0, s213_1, s213_2, s213_5, s213_8, s213_11, s213_12, s213_13, s213_14, s213_17, s213_20, s213_22, s213_23, s213_24, s213_25, s213_28, s213_29, s213_32, s213_35, s213_36, s213_37, s213_40, s213_41, s213_44, s213_45, s213_48, s213_49, s213_76, s213_77, s213_80, s213_83, s213_84, s213_85, s213_88, s213_91, s213_92, s213_93, s213_96, s213_99, zps_0, zps_1, zps_2, zps_3, zps_9, Option.bind_some, Option.bind_none, Int.reduceEq, Int.reduceNe, Int.reduceLT, Int.reduceLE, Int.reduceNeg, Int.reduceAdd, Int.reduceSub, Int.reduceMul, reduceIte, if_true, if_false, true_and, and_true, false_and, and_false, or_true, true_or, or_false, false_or, not_true_eq_false, not_false_eq_true, ite_not, z_b0, z_b1, z_b01, rGK0 hGK, rGK1 hGK, rGK2 hGK, rGK3 hGK, rGK4 hGK, rGK5 hGK, rGK6 hGK, rGK7 hGK, rGK8 hGK, rGK9 hGK, kGK0, kd2, kd3, kd9, kd11, r2_0 hT2, r2_1 hT2, r2_2 hT2, W1, W2, S, if_true, if_false]
  rfl
/-- what a choice leaves as it was -/
def KCh (m x : zM) : Prop := (∀ b, b ≠ 3 → b ≠ 7 → b ≠ 87 → x b = m b) ∧ (∀ j, j ≠ 3 → x 3 j = m 3 j) ∧ (∀ j, j ≠ 1 → j ≠ 2 → j ≠ 3 → x 87 j = m 87 j)
theorem k_chosen (hR : RK R) (h : SV m c) (hc : c < 1000000) (hP : PLs m n (m 3 2)) (hB : 0 ≤ B ∧ B ≤ 999) (i : Int) (hi : 0 ≤ i ∧ i ≤ 2) : ∃ x : zM, ev 213 0 [(2, 1), (0, B), (0, i)] [] R m = some ((0, if i = 0 then (pBm m 2 n B (2 ^ n - 1)).1 else if i = 1 then pCo (m 90) (pBm m 2 n B (2 ^ n - 1)).1 n else (pBm m 2 n B (2 ^ n - 1)).2), R, x) ∧ SV x (c + 800) ∧ KCh m x := by
  obtain ⟨hT2, hT30, hL68, hGK, hAK, hXK, hWK, hPK, hQK, hNK, hCK⟩ := hR
  have W1 := tz_within B 0 999 R m
  have W2 := tz_within i 0 3 R m
  rw [if_pos hB] at W1
  rw [if_pos (by omega)] at W2
  obtain ⟨x, e, hC, x1, x2, x3⟩ := tz_plchoose (R := R) hQK hT2 h.1 (by omega) hP ⟨h.2.1.1, by have := h.2.1.2; show m 3 3 < 1800000000; omega⟩ B
  have hTG := PCh_TG (by omega) hC h.1
  obtain ⟨c1, c2, c3, c4, c5, c6, c7⟩ := hC
  simp only [Int.reduceAdd] at c1 c2 c4 c5 c6 c7
  have i3 : ¬ i = 3 := by omega
  refine ⟨x, ?_, ⟨hTG, ?_, ?_, ?_, ?_⟩, c1, c2, c3⟩
  · rcases (show i = 0 ∨ i = 1 ∨ i = 2 by omega) with q | q | q
    · subst q
      simp only [s213_0, s213_1, s213_2, s213_5, s213_8, s213_11, s213_12, s213_13, s213_14, s213_17, s213_20, s213_22, s213_23, s213_24, s213_25, s213_28, s213_29, s213_32, s213_35, s213_36, s213_37, s213_40, s213_41, s213_44, s213_45, s213_48, s213_49, s213_76, s213_77, s213_80, s213_83, s213_84, s213_85, s213_88, s213_91, s213_92, s213_93, s213_96, s213_99, zps_0, zps_1, zps_2, zps_3, zps_9, Option.bind_some, Option.bind_none, Int.reduceEq, Int.reduceNe, Int.reduceLT, Int.reduceLE, Int.reduceNeg, Int.reduceAdd, Int.reduceSub, Int.reduceMul, reduceIte, if_true, if_false, true_and, and_true, false_and, and_false, or_true, true_or, or_false, false_or, not_true_eq_false, not_false_eq_true, ite_not, z_b0, z_b1, z_b01, rGK0 hGK, rGK1 hGK, rGK2 hGK, rGK3 hGK, rGK4 hGK, rGK5 hGK, rGK6 hGK, rGK7 hGK, rGK8 hGK, rGK9 hGK, kGK0, kd2, kd3, kd9, kd11, r2_0 hT2, r2_1 hT2, r2_2 hT2, kQK0, W1, W2, e, x1, if_true, if_false]
    · subst q
      simp only [s213_0, s213_1, s213_2, s213_5, s213_8, s213_11, s213_12, s213_13, s213_14, s213_17, s213_20, s213_22, s213_23, s213_24, s213_25, s213_28, s213_29, s213_32, s213_35, s213_36, s213_37, s213_40, s213_41, s213_44, s213_45, s213_48, s213_49, s213_76, s213_77, s213_80, s213_83, s213_84, s213_85, s213_88, s213_91, s213_92, s213_93, s213_96, s213_99, zps_0, zps_1, zps_2, zps_3, zps_9, Option.bind_some, Option.bind_none, Int.reduceEq, Int.reduceNe, Int.reduceLT, Int.reduceLE, Int.reduceNeg, Int.reduceAdd, Int.reduceSub, Int.reduceMul, reduceIte, if_true, if_false, true_and, and_true, false_and, and_false, or_true, true_or, or_false, false_or, not_true_eq_false, not_false_eq_true, ite_not, z_b0, z_b1, z_b01, rGK0 hGK, rGK1 hGK, rGK2 hGK, rGK3 hGK, rGK4 hGK, rGK5 hGK, rGK6 hGK, rGK7 hGK, rGK8 hGK, rGK9 hGK, kGK0, kd2, kd3, kd9, kd11, r2_0 hT2, r2_1 hT2, r2_2 hT2, kQK0, W1, W2, e, x2, if_true, if_false]
    · subst q
      simp only [s213_0, s213_1, s213_2, s213_5, s213_8, s213_11, s213_12, s213_13, s213_14, s213_17, s213_20, s213_22, s213_23, s213_24, s213_25, s213_28, s213_29, s213_32, s213_35, s213_36, s213_37, s213_40, s213_41, s213_44, s213_45, s213_48, s213_49, s213_76, s213_77, s213_80, s213_83, s213_84, s213_85, s213_88, s213_91, s213_92, s213_93, s213_96, s213_99, zps_0, zps_1, zps_2, zps_3, zps_9, Option.bind_some, Option.bind_none, Int.reduceEq, Int.reduceNe, Int.reduceLT, Int.reduceLE, Int.reduceNeg, Int.reduceAdd, Int.reduceSub, Int.reduceMul, reduceIte, if_true, if_false, true_and, and_true, false_and, and_false, or_true, true_or, or_false, false_or, not_true_eq_false, not_false_eq_true, ite_not, z_b0, z_b1, z_b01, rGK0 hGK, rGK1 hGK, rGK2 hGK, rGK3 hGK, rGK4 hGK, rGK5 hGK, rGK6 hGK, rGK7 hGK, rGK8 hGK, rGK9 hGK, kGK0, kd2, kd3, kd9, kd11, r2_0 hT2, r2_1 hT2, r2_2 hT2, kQK0, W1, W2, e, x3, if_true, if_false]
  · have := h.2.1; omega
  · rw [c1 2 (by decide) (by decide) (by decide)]; exact h.2.2.1
  · rw [c1 2 (by decide) (by decide) (by decide)]; exact h.2.2.2.1
  · rw [c1 11 (by decide) (by decide) (by decide)]; exact h.2.2.2.2
theorem k_build0 (hR : RK R) (h : SV m c) (hc : c < 1000000) (hP : PLs m n (m 3 2)) (ha : 0 ≤ m 58 0 ∧ m 58 0 < 60) {k : Int} (hk : 0 ≤ k ∧ k < n) (hf : m 4 (m 88 k) = 0 ∧ m 6 (m 88 k) = 0) : ∃ m' : zM, ev 214 0 [(2, 1), (0, k), (9, 0), (9, 0)] [] R m = some ((0, 1), R, m') ∧ SV m' (c + 1) ∧ (if m 89 k = 0 then m' 4 (m 88 k) = 2 else m' 6 (m 88 k) = m 89 k) ∧ m' 58 0 = m 58 0 + 1 ∧ (∀ b, b ≠ 3 → b ≠ 4 → b ≠ 6 → b ≠ 7 → (b < 58 ∨ 61 < b) → m' b = m b) ∧ (∀ j, j ≠ 3 → m' 3 j = m 3 j) := by
  have hR' := hR
  obtain ⟨hT2, hT30, hL68, hGK, hAK, hXK, hWK, hPK, hQK, hNK, hCK⟩ := hR
  obtain ⟨q1, q2, q3⟩ := hP
  have PP := tz_plplot (R := R) hQK ⟨q1, q2, q3⟩ hk
  have PK' := tz_plkind (R := R) hQK ⟨q1, q2, q3⟩ hk
  obtain ⟨hp, hu, -⟩ := q3 k hk.1 hk.2
  obtain ⟨p, hpe⟩ : ∃ p, m 88 k = p := ⟨_, rfl⟩
  obtain ⟨u, hue⟩ : ∃ u, m 89 k = u := ⟨_, rfl⟩
  rw [hpe] at hp PP hf ⊢
  rw [hue] at hu PK' ⊢
  have F := tz_isFree (R := R) (TK_B3 hT2) (SV_B h) p
  simp only [Int.reduceAdd] at F
  rw [if_pos ⟨hp, hf⟩] at F
  have zn : zw ((n : Int) - 1) = (n : Int) - 1 := zw_i (by omega) (by omega)
  have W := tz_within k 0 ((n : Int) - 1) R m
  rw [if_pos (by omega)] at W
  have AF := tz_afull (R := R) (m := m) hAK
  rw [if_neg (by omega)] at AF
  by_cases u0 : u = 0
  · obtain ⟨m', e, s, r4, a, f, f3⟩ := k_ground hR' h hc ha hp (g := 2) (by omega) hf.2
    refine ⟨m', ?_, s, ?_, a, fun b b3 b4 b6 b7 b58 => f b b3 b4 b7 b58, f3⟩
    · rw [u0] at PK'
      simp only [s214_0, s214_1, s214_2, s214_3, s214_6, s214_9, s214_10, s214_11, s214_14, s214_17, s214_18, s214_19, s214_20, s214_23, s214_24, s214_27, s214_28, s214_29, s214_32, s214_33, s214_36, s214_37, s214_38, s214_41, s214_44, s214_45, s214_48, s214_51, s214_53, s214_54, s214_55, s214_58, s214_61, s214_64, s214_66, s214_67, s214_68, s214_71, s214_72, s214_73, s214_74, s214_77, s214_78, s214_81, s214_82, s214_83, s214_84, s214_87, s214_88, s214_89, zps_0, zps_1, zps_2, zps_3, zps_9, Option.bind_some, Option.bind_none, Int.reduceEq, Int.reduceNe, Int.reduceLT, Int.reduceLE, Int.reduceNeg, Int.reduceAdd, Int.reduceSub, Int.reduceMul, reduceIte, if_true, if_false, true_and, and_true, false_and, and_false, or_true, true_or, or_false, false_or, not_true_eq_false, not_false_eq_true, ite_not, z_b0, z_b1, z_b01, rGK0 hGK, rGK1 hGK, rGK2 hGK, rGK3 hGK, rGK4 hGK, rGK5 hGK, rGK6 hGK, rGK7 hGK, rGK8 hGK, rGK9 hGK, kGK0, kd2, kd3, kd9, kd11, r2_0 hT2, r2_1 hT2, r2_2 hT2, rQK0 hQK, rQK1 hQK, rQK2 hQK, kQK0, kQK1, kQK2, kQK3, kQK4, kQK5, kQK6, kAK0, q1, zn, W, PP, PK', F, AF, e, if_true, if_false]
    · rw [if_pos u0, r4, zrw_at]
  · obtain ⟨m', e, s, r6, a, f⟩ := k_use hR' h ha hp (g := u) (by omega) hf.1
    refine ⟨m', ?_, SV_le s (by omega), ?_, a, fun b b3 b4 b6 b7 b58 => f b b6 b7 b58, fun j hj => by rw [f 3 (by decide) (by decide) (by omega)]⟩
    · simp only [s214_0, s214_1, s214_2, s214_3, s214_6, s214_9, s214_10, s214_11, s214_14, s214_17, s214_18, s214_19, s214_20, s214_23, s214_24, s214_27, s214_28, s214_29, s214_32, s214_33, s214_36, s214_37, s214_38, s214_41, s214_44, s214_45, s214_48, s214_51, s214_53, s214_54, s214_55, s214_58, s214_61, s214_64, s214_66, s214_67, s214_68, s214_71, s214_72, s214_73, s214_74, s214_77, s214_78, s214_81, s214_82, s214_83, s214_84, s214_87, s214_88, s214_89, zps_0, zps_1, zps_2, zps_3, zps_9, Option.bind_some, Option.bind_none, Int.reduceEq, Int.reduceNe, Int.reduceLT, Int.reduceLE, Int.reduceNeg, Int.reduceAdd, Int.reduceSub, Int.reduceMul, reduceIte, if_true, if_false, true_and, and_true, false_and, and_false, or_true, true_or, or_false, false_or, not_true_eq_false, not_false_eq_true, ite_not, z_b0, z_b1, z_b01, rGK0 hGK, rGK1 hGK, rGK2 hGK, rGK3 hGK, rGK4 hGK, rGK5 hGK, rGK6 hGK, rGK7 hGK, rGK8 hGK, rGK9 hGK, kGK0, kd2, kd3, kd9, kd11, r2_0 hT2, r2_1 hT2, r2_2 hT2, rQK0 hQK, rQK1 hQK, rQK2 hQK, kQK0, kQK1, kQK2, kQK3, kQK4, kQK5, kQK6, kAK0, q1, zn, W, PP, PK', F, AF, u0, e, if_true, if_false]
    · rw [if_neg u0, r6, zrw_at]
theorem k_build2 (hR : RK R) (h : SV m c) (hP : PLs m n (m 3 2)) {k : Int} (hk : 0 ≤ k ∧ k < n) (hf : ¬ (m 4 (m 88 k) = 0 ∧ m 6 (m 88 k) = 0)) : ev 214 0 [(2, 1), (0, k), (9, 0), (9, 0)] [] R m = some ((0, -2), R, m) := by
  obtain ⟨hT2, hT30, hL68, hGK, hAK, hXK, hWK, hPK, hQK, hNK, hCK⟩ := hR
  obtain ⟨q1, q2, q3⟩ := hP
  have PP := tz_plplot (R := R) hQK ⟨q1, q2, q3⟩ hk
  have PK' := tz_plkind (R := R) hQK ⟨q1, q2, q3⟩ hk
  have F := tz_isFree (R := R) (TK_B3 hT2) (SV_B h) (m 88 k)
  simp only [Int.reduceAdd] at F
  rw [if_neg (fun q => hf q.2)] at F
  have zn : zw ((n : Int) - 1) = (n : Int) - 1 := zw_i (by omega) (by omega)
  have W := tz_within k 0 ((n : Int) - 1) R m
  rw [if_pos (by omega)] at W
  simp only [s214_0, s214_1, s214_2, s214_3, s214_6, s214_9, s214_10, s214_11, s214_14, s214_17, s214_18, s214_19, s214_20, s214_23, s214_24, s214_27, s214_28, s214_29, s214_32, s214_33, s214_36, s214_37, s214_38, s214_41, s214_44, s214_45, s214_48, s214_51, s214_53, s214_54, s214_55, s214_58, s214_61, s214_64, s214_66, s214_67, s214_68, s214_71, s214_72, s214_73, s214_74, s214_77, s214_78, s214_81, s214_82, s214_83, s214_84, s214_87, s214_88, s214_89, zps_0, zps_1, zps_2, zps_3, zps_9, Option.bind_some, Option.bind_none, Int.reduceEq, Int.reduceNe, Int.reduceLT, Int.reduceLE, Int.reduceNeg, Int.reduceAdd, Int.reduceSub, Int.reduceMul, reduceIte, if_true, if_false, true_and, and_true, false_and, and_false, or_true, true_or, or_false, false_or, not_true_eq_false, not_false_eq_true, ite_not, z_b0, z_b1, z_b01, rGK0 hGK, rGK1 hGK, rGK2 hGK, rGK3 hGK, rGK4 hGK, rGK5 hGK, rGK6 hGK, rGK7 hGK, rGK8 hGK, rGK9 hGK, kGK0, kd2, kd3, kd9, kd11, r2_0 hT2, r2_1 hT2, r2_2 hT2, rQK0 hQK, rQK1 hQK, rQK2 hQK, kQK0, kQK1, kQK2, kQK3, kQK4, kQK5, kQK6, q1, zn, W, PP, PK', F, if_true, if_false]
end KPLANS
