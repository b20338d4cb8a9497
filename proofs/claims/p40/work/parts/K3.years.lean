/-! years, what was, notes -/
section KYEARS
variable {R m : zM} {c p g N B y k : Int} {n : Nat}
theorem k_year (hR : RK R) (h : SV m c) (hy : m 2 3 ≤ 5) : ∃ m' : zM, ev 197 0 [(2, 1)] [] R m = some ((0, 0), R, m') ∧ SV m' c ∧ m' 2 3 = m 2 3 + 1 ∧ (∀ p, 0 ≤ p → p < m 3 2 → m' 6 p = m 6 p) ∧ (∀ p, 0 ≤ p → p < m 3 2 → m' 27 (64 * m 2 3 + p) = m 6 p) ∧ (∀ i, i < 64 * m 2 3 ∨ 64 * m 2 3 + 64 ≤ i → m' 27 i = m 27 i) ∧ (∀ b, b ≠ 2 → b ≠ 6 → b ≠ 7 → (b < 16 ∨ 29 < b) → m' b = m b) := by
  obtain ⟨hT2, hT30, hL68, hGK, hAK, hXK, hWK, hPK, hQK, hNK, hCK⟩ := hR
  obtain ⟨s1, s2, s3, s4, s5⟩ := h
  have hS : SQ m 2 := ⟨by show 0 ≤ m 11 0 ∧ m 11 0 ≤ 20; rw [s5]; omega, fun s q0 q1 => by
    have q1 : s < m 11 0 := q1
    rw [s5] at q1
    omega⟩
  obtain ⟨m', Q, hfin, hPI, e, hYR⟩ := tz_grow (R := R) hT2 s1 hS (by omega) (by rw [s4]; omega)
  obtain ⟨y1, y2, y3, y4, y5, y6, y7, y8, -⟩ := hYR
  have n0 : m (2 + 9) 0 = 0 := s5
  rw [n0] at e hPI
  have e : ev 122 0 [(2, 2), (9, 0), (9, 0), (9, 0), (9, 0)] [] R m = some ((0, 0), R, m') := e
  have hU : ∀ p, gU2 m 2 Q p = m 6 p := fun p => by
    unfold gU2
    rw [n0]
    rw [if_neg (by simp [zany])]
    unfold gU1
    have hq : ¬ 0 ≤ Q.2.2 p := by rcases hPI.2 p with q | q <;> omega
    rw [if_neg hq]
    rfl
  have hx : gTx m 2 Q = 0 := by unfold gTx; rw [n0]; rfl
  have yo : ∀ b, b ≠ 2 → b ≠ 6 → b ≠ 7 → (b < 16 ∨ 29 < b) → m' b = m b := fun b b2 b6 b7 hb => y1 b (by simp only [List.mem_cons, List.not_mem_nil, or_false]; omega)
  have c1 : m 2 3 < 24 := by omega
  refine ⟨m', ?_, ⟨y2, ?_, ?_, ?_, ?_⟩, y3, fun p p0 p1 => ?_, fun p p0 p1 => ?_, y8, yo⟩
  · simp only [s197_0, s197_1, s197_4, s197_7, s197_9, s197_12, s197_14, s197_17, s197_18, s197_21, s197_24, zps_0, zps_1, zps_2, zps_3, zps_9, Option.bind_some, Option.bind_none, Int.reduceEq, Int.reduceNe, Int.reduceLT, Int.reduceLE, Int.reduceNeg, Int.reduceAdd, Int.reduceSub, Int.reduceMul, reduceIte, if_true, if_false, true_and, and_true, false_and, and_false, or_true, true_or, or_false, false_or, not_true_eq_false, not_false_eq_true, ite_not, z_b0, z_b1, z_b01, rGK0 hGK, rGK1 hGK, rGK2 hGK, rGK3 hGK, rGK4 hGK, rGK5 hGK, rGK6 hGK, rGK7 hGK, rGK8 hGK, rGK9 hGK, kGK0, kd2, kd3, kd9, kd11, r2_0 hT2, r2_1 hT2, r2_2 hT2, c1, e, if_true, if_false]
  · rw [yo 3 (by decide) (by decide) (by decide) (by omega)]; exact s2
  · rw [y3]; omega
  · rw [y4, s4, hx]; rfl
  · rw [yo 11 (by decide) (by decide) (by decide) (by omega)]; exact s5
  · have := y5 p p0 p1
    rw [hU] at this
    exact this
  · have := y7 p p0 p1
    rw [hU] at this
    exact this
theorem k_was (hR : RK R) (h : SV m c) (hy : 0 ≤ y ∧ y < m 2 3) (hp : 0 ≤ p ∧ p < m 3 2) : ev 198 0 [(2, 1), (0, y), (0, p)] [] R m = some ((0, m 27 (64 * y + p)), R, m) := by
  obtain ⟨hT2, hT30, hL68, hGK, hAK, hXK, hWK, hPK, hQK, hNK, hCK⟩ := hR
  have y24 : m 2 3 ≤ 24 := by have := h.2.2.1; omega
  have H := tz_has (m := m) (TK_B3 hT2) p
  rw [if_pos hp] at H
  have RM := tz_remembers (R := R) (m := m) hT2 y24 y
  rw [if_pos hy] at RM
  have U := tz_usedIn (R := R) (m := m) (y := y) (p := p) hT2 y24 (SV_n h).2 hy hp
  simp only [Int.reduceAdd] at U
  simp only [s198_0, s198_1, s198_4, s198_5, s198_8, s198_11, s198_12, s198_15, s198_18, s198_19, s198_22, s198_25, s198_26, s198_29, s198_30, s198_31, s198_34, s198_37, s198_38, zps_0, zps_1, zps_2, zps_3, zps_9, Option.bind_some, Option.bind_none, Int.reduceEq, Int.reduceNe, Int.reduceLT, Int.reduceLE, Int.reduceNeg, Int.reduceAdd, Int.reduceSub, Int.reduceMul, reduceIte, if_true, if_false, true_and, and_true, false_and, and_false, or_true, true_or, or_false, false_or, not_true_eq_false, not_false_eq_true, ite_not, z_b0, z_b1, z_b01, rGK0 hGK, rGK1 hGK, rGK2 hGK, rGK3 hGK, rGK4 hGK, rGK5 hGK, rGK6 hGK, rGK7 hGK, rGK8 hGK, rGK9 hGK, kGK0, kd2, kd3, kd9, kd11, r2_0 hT2, r2_1 hT2, r2_2 hT2, H, RM, U, if_true, if_false]
/-- the notes that are kept: how many -/
def NTs (m : zM) (n : Nat) : Prop := m 91 0 = n ∧ n ≤ 16
theorem k_note (hR : RK R) (h : SV m c) (hn : m 91 0 = n) (h16 : n < 16) (hy : 0 ≤ y ∧ y < m 2 3) (hp : 0 ≤ p ∧ p < m 3 2) (hg : 0 ≤ g ∧ g ≤ 3) : ∃ m' : zM, ev 215 0 [(2, 1), (0, y), (0, p), (0, g)] [] R m = some ((0, (n : Int)), R, m') ∧ m' 91 0 = ((n + 1 : Nat) : Int) ∧ m' 92 = zrw (m 92) n (m 2 3) ∧ m' 93 = zrw (m 93) n y ∧ m' 94 = zrw (m 94) n p ∧ m' 95 = zrw (m 95) n g ∧ ∀ b, b < 91 ∨ 95 < b → m' b = m b := by
  obtain ⟨hT2, hT30, hL68, hGK, hAK, hXK, hWK, hPK, hQK, hNK, hCK⟩ := hR
  have y24 : m 2 3 ≤ 24 := by have := h.2.2.1; omega
  have H := tz_has (m := m) (TK_B3 hT2) p
  rw [if_pos hp] at H
  have RM := tz_remembers (R := R) (m := m) hT2 y24 y
  rw [if_pos hy] at RM
  have W := tz_within g 0 3 R m
  rw [if_pos hg] at W
  have W2 := tz_within n 0 15 R m
  rw [if_pos (by omega)] at W2
  have c16 : ¬ 16 ≤ (n : Int) := by omega
  have d16 : (n : Int) < 16 := by omega
  have c0 : 0 ≤ (n : Int) ∧ (n : Int) < 16 := by omega
  have z1 : zw ((n : Int) + 1) = ((n + 1 : Nat) : Int) := by rw [zw_i (by omega) (by omega)]; rfl
  have z2 : zw (((n + 1 : Nat) : Int) - 1) = (n : Int) := by rw [zw_i (by omega) (by omega)]; omega
  obtain ⟨z, hz⟩ : ∃ z, zpr (zpr (zpr (zpr (zpr m 92 (zrw (m 92) n (m 2 3))) 93 (zrw (m 93) n y)) 94 (zrw (m 94) n p)) 95 (zrw (m 95) n g)) 91 (zrw (m 91) 0 ((n + 1 : Nat) : Int)) = z := ⟨_, rfl⟩
  have r1 : ∀ F, zpr m 92 F 91 = m 91 := fun F => zpr_ne (by decide)
  have r2 : ∀ F G, zpr (zpr m 92 F) 93 G 91 = m 91 := fun F G => by rw [zpr_ne (by decide), zpr_ne (by decide)]
  have r3 : ∀ F G H, zpr (zpr (zpr m 92 F) 93 G) 94 H 91 = m 91 := fun F G H => by rw [zpr_ne (by decide), zpr_ne (by decide), zpr_ne (by decide)]
  have r4 : ∀ F G H I, zpr (zpr (zpr (zpr m 92 F) 93 G) 94 H) 95 I 91 = m 91 := fun F G H I => by rw [zpr_ne (by decide), zpr_ne (by decide), zpr_ne (by decide), zpr_ne (by decide)]
  have r5 : ∀ F, zpr m 92 F 93 = m 93 := fun F => zpr_ne (by decide)
  have r6 : ∀ F G, zpr (zpr m 92 F) 93 G 94 = m 94 := fun F G => by rw [zpr_ne (by decide), zpr_ne (by decide)]
  have r7 : ∀ F G H, zpr (zpr (zpr m 92 F) 93 G) 94 H 95 = m 95 := fun F G H => by rw [zpr_ne (by decide), zpr_ne (by decide), zpr_ne (by decide)]
  have r8 : ∀ F v, zrw F 0 v 0 = v := fun F v => zrw_at _ _ _
  have z9 : z 91 0 = ((n + 1 : Nat) : Int) := by rw [← hz, zpr_at, zrw_at]
  have A : ev 71 0 [(2, 91), (0, m 2 3), (0, y), (0, p), (0, g)] [] R m = some ((0, (n : Int)), R, z) := by
    simp only [s71_0, s71_1, s71_4, s71_5, s71_7, s71_10, s71_13, s71_15, s71_16, s71_17, s71_20, s71_21, s71_24, s71_25, s71_26, s71_27, s71_30, s71_31, s71_34, s71_35, s71_36, s71_37, s71_40, s71_41, s71_44, s71_45, s71_46, s71_47, s71_50, s71_51, s71_54, s71_56, s71_57, s71_58, s71_59, s71_62, s71_63, s71_64, s71_67, s71_68, s71_71, s71_72, s71_73, zps_0, zps_1, zps_2, zps_3, zps_9, Option.bind_some, Option.bind_none, Int.reduceEq, Int.reduceNe, Int.reduceLT, Int.reduceLE, Int.reduceNeg, Int.reduceAdd, Int.reduceSub, Int.reduceMul, reduceIte, if_true, if_false, true_and, and_true, false_and, and_false, or_true, true_or, or_false, false_or, not_true_eq_false, not_false_eq_true, ite_not, z_b0, z_b1, z_b01, rNK0 hNK, rNK1 hNK, rNK2 hNK, rNK3 hNK, kNK0, kNK1, kNK2, kNK3, kNK4, kNK5, kNK6, kNK7, kNK8, hn, W2, c0, z1, r1, r2, r3, r4, r5, r6, r7, r8, z2, zup_zpr, zpr_at, and_self, if_true, if_false, hz, z9]
  refine ⟨z, ?_, ?_, ?_, ?_, ?_, ?_, fun b hb => by rw [← hz, zpr_ne (by omega), zpr_ne (by omega), zpr_ne (by omega), zpr_ne (by omega), zpr_ne (by omega)]⟩
  · simp only [s215_0, s215_1, s215_4, s215_5, s215_8, s215_11, s215_12, s215_15, s215_18, s215_19, s215_22, s215_25, s215_26, s215_27, s215_28, s215_31, s215_34, s215_35, s215_36, s215_37, s215_40, s215_43, s215_45, s215_48, s215_50, s215_53, s215_54, s215_57, s215_58, s215_61, s215_64, s215_65, s215_66, s215_67, s215_70, zps_0, zps_1, zps_2, zps_3, zps_9, Option.bind_some, Option.bind_none, Int.reduceEq, Int.reduceNe, Int.reduceLT, Int.reduceLE, Int.reduceNeg, Int.reduceAdd, Int.reduceSub, Int.reduceMul, reduceIte, if_true, if_false, true_and, and_true, false_and, and_false, or_true, true_or, or_false, false_or, not_true_eq_false, not_false_eq_true, ite_not, z_b0, z_b1, z_b01, rGK0 hGK, rGK1 hGK, rGK2 hGK, rGK3 hGK, rGK4 hGK, rGK5 hGK, rGK6 hGK, rGK7 hGK, rGK8 hGK, rGK9 hGK, kGK0, kd2, kd3, kd9, kd11, r2_0 hT2, r2_1 hT2, r2_2 hT2, kNK0, hn, H, RM, W, c16, d16, A, if_true, if_false]
  · rw [← hz, zpr_at, zrw_at]
  · rw [← hz, zpr_ne (by decide), zpr_ne (by decide), zpr_ne (by decide), zpr_ne (by decide), zpr_at]
  · rw [← hz, zpr_ne (by decide), zpr_ne (by decide), zpr_ne (by decide), zpr_at]
  · rw [← hz, zpr_ne (by decide), zpr_ne (by decide), zpr_at]
  · rw [← hz, zpr_ne (by decide), zpr_at]
/-- the place of the note that tells -/
def nAt (m : zM) (n : Nat) (k y p : Int) : Int := nLat (fun i => decide (m 92 i ≤ k ∧ m 93 i = y ∧ m 94 i = p)) n
theorem nLat_bd (f : Int → Bool) (n : Nat) : nLat f n = -1 ∨ (0 ≤ nLat f n ∧ nLat f n < n ∧ f (nLat f n) = true) := by
  induction n with
  | zero => exact Or.inl rfl
  | succ n ih =>
    unfold nLat
    by_cases c : f n = true
    · rw [if_pos c]; right; exact ⟨by omega, by omega, c⟩
    · rw [if_neg c]
      rcases ih with h | ⟨h1, h2, h3⟩
      · exact Or.inl h
      · right; exact ⟨h1, by omega, h3⟩
theorem k_known (hR : RK R) (h : SV m c) (hn : m 91 0 = n) (h16 : n ≤ 16) (hk : 0 ≤ k ∧ k ≤ 99) (hy : 0 ≤ y ∧ y < m 2 3) (hp : 0 ≤ p ∧ p < m 3 2) (hky : y ≤ k) : ev 216 0 [(2, 1), (0, k), (0, y), (0, p), (9, 0)] [] R m = some ((0, if nAt m n k y p < 0 then m 27 (64 * y + p) else m 95 (nAt m n k y p)), R, m) := by
  obtain ⟨hT2, hT30, hL68, hGK, hAK, hXK, hWK, hPK, hQK, hNK, hCK⟩ := hR
  have y24 : m 2 3 ≤ 24 := by have := h.2.2.1; omega
  have H := tz_has (m := m) (TK_B3 hT2) p
  rw [if_pos hp] at H
  have RM := tz_remembers (R := R) (m := m) hT2 y24 y
  rw [if_pos hy] at RM
  have W := tz_within k 0 99 R m
  rw [if_pos hk] at W
  have c1 : ¬ k < y := by omega
  have L := tz_nlat (R := R) (m := m) (k := k) (y := y) (p := p) hNK hn h16
  have U := tz_usedIn (R := R) (m := m) (y := y) (p := p) hT2 y24 (SV_n h).2 hy hp
  simp only [Int.reduceAdd] at U
  rw [show nLat (fun i => decide (m 92 i ≤ k ∧ m 93 i = y ∧ m 94 i = p)) n = nAt m n k y p from rfl] at L
  have hb := nLat_bd (fun i => decide (m 92 i ≤ k ∧ m 93 i = y ∧ m 94 i = p)) n
  rw [show nLat (fun i => decide (m 92 i ≤ k ∧ m 93 i = y ∧ m 94 i = p)) n = nAt m n k y p from rfl] at hb
  generalize nAt m n k y p = i at L hb ⊢
  by_cases c2 : i < 0
  · rw [if_pos c2]
    have c3 : ¬ 0 ≤ i := by omega
    simp only [s216_0, s216_1, s216_2, s216_4, s216_7, s216_10, s216_11, s216_14, s216_15, s216_18, s216_21, s216_22, s216_25, s216_28, s216_29, s216_32, s216_35, s216_36, s216_37, s216_38, s216_39, s216_42, s216_44, s216_45, s216_46, s216_49, s216_50, s216_51, s216_52, s216_55, s216_57, s216_59, s216_62, s216_63, s216_66, s216_67, s216_68, s216_71, s216_74, s216_75, s216_78, s216_80, s216_83, zps_0, zps_1, zps_2, zps_3, zps_9, Option.bind_some, Option.bind_none, Int.reduceEq, Int.reduceNe, Int.reduceLT, Int.reduceLE, Int.reduceNeg, Int.reduceAdd, Int.reduceSub, Int.reduceMul, reduceIte, if_true, if_false, true_and, and_true, false_and, and_false, or_true, true_or, or_false, false_or, not_true_eq_false, not_false_eq_true, ite_not, z_b0, z_b1, z_b01, rGK0 hGK, rGK1 hGK, rGK2 hGK, rGK3 hGK, rGK4 hGK, rGK5 hGK, rGK6 hGK, rGK7 hGK, rGK8 hGK, rGK9 hGK, kGK0, kd2, kd3, kd9, kd11, r2_0 hT2, r2_1 hT2, r2_2 hT2, kNK0, H, RM, W, c1, hky, L, c2, c3, U, if_true, if_false]
  · rw [if_neg c2]
    have c3 : 0 ≤ i := by omega
    have NU := tz_nuse (R := R) (m := m) hNK hn h16 (i := i) (by omega)
    simp only [s216_0, s216_1, s216_2, s216_4, s216_7, s216_10, s216_11, s216_14, s216_15, s216_18, s216_21, s216_22, s216_25, s216_28, s216_29, s216_32, s216_35, s216_36, s216_37, s216_38, s216_39, s216_42, s216_44, s216_45, s216_46, s216_49, s216_50, s216_51, s216_52, s216_55, s216_57, s216_59, s216_62, s216_63, s216_66, s216_67, s216_68, s216_71, s216_74, s216_75, s216_78, s216_80, s216_83, zps_0, zps_1, zps_2, zps_3, zps_9, Option.bind_some, Option.bind_none, Int.reduceEq, Int.reduceNe, Int.reduceLT, Int.reduceLE, Int.reduceNeg, Int.reduceAdd, Int.reduceSub, Int.reduceMul, reduceIte, if_true, if_false, true_and, and_true, false_and, and_false, or_true, true_or, or_false, false_or, not_true_eq_false, not_false_eq_true, ite_not, z_b0, z_b1, z_b01, rGK0 hGK, rGK1 hGK, rGK2 hGK, rGK3 hGK, rGK4 hGK, rGK5 hGK, rGK6 hGK, rGK7 hGK, rGK8 hGK, rGK9 hGK, kGK0, kd2, kd3, kd9, kd11, r2_0 hT2, r2_1 hT2, r2_2 hT2, kNK0, H, RM, W, c1, hky, L, c2, c3, NU, if_true, if_false]
theorem k_knownB (hR : RK R) (h : SV m c) (hy : 0 ≤ y ∧ y < m 2 3) (hp : 0 ≤ p ∧ p < m 3 2) (k : Int) (hk : k < y ∧ k ≤ 99) : ev 216 0 [(2, 1), (0, k), (0, y), (0, p), (9, 0)] [] R m = some ((0, if k < 0 then -1 else -2), R, m) := by
  obtain ⟨hT2, hT30, hL68, hGK, hAK, hXK, hWK, hPK, hQK, hNK, hCK⟩ := hR
  have y24 : m 2 3 ≤ 24 := by have := h.2.2.1; omega
  have H := tz_has (m := m) (TK_B3 hT2) p
  rw [if_pos hp] at H
  have RM := tz_remembers (R := R) (m := m) hT2 y24 y
  rw [if_pos hy] at RM
  have W := tz_within k 0 99 R m
  by_cases c0 : k < 0
  · rw [if_neg (by omega)] at W
    rw [if_pos c0]
    simp only [s216_0, s216_1, s216_2, s216_4, s216_7, s216_10, s216_11, s216_14, s216_15, s216_18, s216_21, s216_22, s216_25, s216_28, s216_29, s216_32, s216_35, s216_36, s216_37, s216_38, s216_39, s216_42, s216_44, s216_45, s216_46, s216_49, s216_50, s216_51, s216_52, s216_55, s216_57, s216_59, s216_62, s216_63, s216_66, s216_67, s216_68, s216_71, s216_74, s216_75, s216_78, s216_80, s216_83, zps_0, zps_1, zps_2, zps_3, zps_9, Option.bind_some, Option.bind_none, Int.reduceEq, Int.reduceNe, Int.reduceLT, Int.reduceLE, Int.reduceNeg, Int.reduceAdd, Int.reduceSub, Int.reduceMul, reduceIte, if_true, if_false, true_and, and_true, false_and, and_false, or_true, true_or, or_false, false_or, not_true_eq_false, not_false_eq_true, ite_not, z_b0, z_b1, z_b01, rGK0 hGK, rGK1 hGK, rGK2 hGK, rGK3 hGK, rGK4 hGK, rGK5 hGK, rGK6 hGK, rGK7 hGK, rGK8 hGK, rGK9 hGK, kGK0, kd2, kd3, kd9, kd11, r2_0 hT2, r2_1 hT2, r2_2 hT2, W, if_true, if_false]
  · rw [if_pos (by omega)] at W
    rw [if_neg c0]
    have c1 := hk.1
    have c2 : ¬ y ≤ k := by omega
    simp only [s216_0, s216_1, s216_2, s216_4, s216_7, s216_10, s216_11, s216_14, s216_15, s216_18, s216_21, s216_22, s216_25, s216_28, s216_29, s216_32, s216_35, s216_36, s216_37, s216_38, s216_39, s216_42, s216_44, s216_45, s216_46, s216_49, s216_50, s216_51, s216_52, s216_55, s216_57, s216_59, s216_62, s216_63, s216_66, s216_67, s216_68, s216_71, s216_74, s216_75, s216_78, s216_80, s216_83, zps_0, zps_1, zps_2, zps_3, zps_9, Option.bind_some, Option.bind_none, Int.reduceEq, Int.reduceNe, Int.reduceLT, Int.reduceLE, Int.reduceNeg, Int.reduceAdd, Int.reduceSub, Int.reduceMul, reduceIte, if_true, if_false, true_and, and_true, false_and, and_false, or_true, true_or, or_false, false_or, not_true_eq_false, not_false_eq_true, ite_not, z_b0, z_b1, z_b01, rGK0 hGK, rGK1 hGK, rGK2 hGK, rGK3 hGK, rGK4 hGK, rGK5 hGK, rGK6 hGK, rGK7 hGK, rGK8 hGK, rGK9 hGK, kGK0, kd2, kd3, kd9, kd11, r2_0 hT2, r2_1 hT2, r2_2 hT2, H, RM, W, c1, c2, if_true, if_false]
end KYEARS
