/-! year -/
section YEARX
variable {R m x y w : zM} {p g u S0 K Y : Int}
theorem ARl_c6 (hr : ∀ b, 59 ≤ b → b ≤ 61 → x b = m b) (h58 : x 58 0 = m 58 0) (hl : ∀ b, 153 ≤ b → x b = m b) (hs : ∀ b, (106 ≤ b ∧ b ≤ 109) ∨ (114 ≤ b ∧ b ≤ 117) → x b = m b) (k0 : x 100 0 = m 100 0) (k1 : x 100 1 = m 100 1) (k6 : m 100 6 ≤ x 100 6) (k10 : x 100 10 = m 100 10) (k19 : x 100 19 = m 100 19) (h : ARl R m m) : ARl R x x := by
  obtain ⟨a, b, c, d, e, f⟩ := h
  have ez : ∀ i, zc3 x i = zc3 m i := fun i => by unfold zc3; rw [hs 114 (by omega)]
  have eN : mN x = mN m := by unfold mN; rw [k0, k1]
  unfold ARl
  simp only [ez, k10, k19, h58, hs 106 (by omega), hs 107 (by omega), hs 108 (by omega), hs 109 (by omega), hs 114 (by omega), hs 115 (by omega), hs 116 (by omega)]
  refine ⟨a, b, fun i i0 i1 => ?_, d, e, f⟩
  obtain ⟨c1, c2⟩ := c i i0 i1
  refine ⟨?_, by omega⟩
  obtain ⟨h0, h1, h3, h4, h5, h6, h7, h8, h9, h10⟩ := c1
  unfold AOk
  rw [hr 59 (by decide) (by decide), hr 60 (by decide) (by decide), hr 61 (by decide) (by decide), hs 114 (by omega), hs 115 (by omega), hs 116 (by omega), hs 117 (by omega), eN]
  refine ⟨h0, h1, h3, h4, h5, h6, h7, h8, h9, fun z => ?_⟩
  obtain ⟨q1, q2, q3, q4, q5⟩ := h10 z
  rw [hl _ q1, hl (R 62 i + 1) (by omega)]
  exact ⟨q1, q2, q3, q4, q5⟩
theorem tz_myl (hM : MK R) (hY : w 100 6 = Y) (hy : 0 ≤ Y ∧ Y < 24) : ∃ f : Int → Int, ev 272 18 [(2, 100), (0, 0)] [] R w = ev 272 50 [(2, 100), (0, 64)] [] R (zpr w 118 f) ∧ (∀ p, 0 ≤ p → p < 64 → f (64 * Y + p) = w 103 p) ∧ ∀ j, ¬ (64 * Y ≤ j ∧ j < 64 * Y + 64) → f j = w 118 j := by
  have L0 : ev 272 18 [(2, 100), (0, 0)] [] R w = ev 272 18 [(2, 100), (0, 0)] [] R (zpr w 118 (w 118)) := by rw [zpr_self]
  rw [L0]
  refine zloop (fun r => ∃ f : Int → Int, r = ev 272 50 [(2, 100), (0, 64)] [] R (zpr w 118 f) ∧ (∀ p, 0 ≤ p → p < 64 → f (64 * Y + p) = w 103 p) ∧ ∀ j, ¬ (64 * Y ≤ j ∧ j < 64 * Y + 64) → f j = w 118 j) (fun i (g : Int → Int) => ev 272 18 [(2, 100), (0, i)] [] R (zpr w 118 g)) 64 (fun i g => 0 ≤ i ∧ (∀ q, 0 ≤ q → q < i → g (64 * Y + q) = w 103 q) ∧ ∀ j, ¬ (64 * Y ≤ j ∧ j < 64 * Y + 64) → g j = w 118 j) ?_ ?_ 0 (w 118) (by omega) ⟨by omega, fun q q0 q1 => by omega, fun j hj => rfl⟩
  · rintro i g hi ⟨i0, hI, hJ⟩ ih
    have c1 : ¬ 64 ≤ i := by omega
    have z1 : zw (64 * Y) = 64 * Y := zw_i (by omega) (by omega)
    have z2 : zw (64 * Y + i) = 64 * Y + i := zw_i (by omega) (by omega)
    have z3 : zw (i + 1) = i + 1 := zw_i (by omega) (by omega)
    have c2 : 0 ≤ 64 * Y + i ∧ 64 * Y + i < 1536 := by omega
    have c3 : 0 ≤ i ∧ i < 64 := by omega
    have p1 : zpr w 118 g 100 = w 100 := zpr_ne (by decide)
    have p2 : zpr w 118 g 103 = w 103 := zpr_ne (by decide)
    rw [s272_18]
    simp only [s272_0, s272_1, s272_4, s272_6, s272_9, s272_11, s272_12, s272_13, s272_16, s272_17, s272_19, s272_21, s272_24, s272_25, s272_28, s272_30, s272_31, s272_34, s272_35, s272_36, s272_37, s272_38, s272_41, s272_42, s272_43, s272_44, s272_47, s272_51, s272_54, s272_55, s272_56, s272_59, s272_60, s272_61, s272_64, s272_65, s272_66, s272_69, s272_70, s272_71, s272_74, s272_75, s272_76, s272_77, s272_78, s272_81, s272_82, s272_83, s272_86, s272_87, s272_88, s272_91, s272_92, s272_93, s272_94, s272_95, s272_98, s272_99, s272_100, s272_103, s272_104, s272_105, s272_108, s272_109, s272_110, s272_111, s272_112, s272_115, s272_116, s272_117, s272_118, s272_121, s272_122, s272_123, s272_126, s272_127, s272_130, zps_0, zps_1, zps_2, zps_3, zps_9, Option.bind_some, Option.bind_none, Int.reduceEq, Int.reduceNe, Int.reduceLT, Int.reduceLE, Int.reduceNeg, Int.reduceAdd, Int.reduceSub, Int.reduceMul, reduceIte, if_true, if_false, true_and, and_true, false_and, and_false, or_true, true_or, or_false, false_or, not_true_eq_false, not_false_eq_true, ite_not, z_b0, z_b1, z_b01, rMK0 hM, rMK1 hM, rMK2 hM, rMK3 hM, rMK4 hM, rMK5 hM, rMK6 hM, rMK7 hM, rMK8 hM, rMK9 hM, rMK10 hM, rMK11 hM, rMK12 hM, rMK13 hM, rMK14 hM, rMK15 hM, rMK16 hM, rMK17 hM, rMK18 hM, rMK19 hM, rMK20 hM, rMK21 hM, rMK22 hM, rMK23 hM, rMK24 hM, rMK25 hM, rMK26 hM, rMK27 hM, rMK28 hM, rMK29 hM, rMK30 hM, rMK31 hM, rMK32 hM, rMK33 hM, rMK34 hM, rMK35 hM, rMK36 hM, rMK37 hM, rMK38 hM, rMK39 hM, rMK40 hM, rMK41 hM, rMK42 hM, rMK43 hM, rMK44 hM, rMK45 hM, rMK46 hM, rMK47 hM, rMK48 hM, rMK49 hM, rMK50 hM, rMK51 hM, kMK0, kMK1, kMK2, kMK3, kMK4, kMK5, kMK6, kMK7, kMK8, kMK9, kMK10, kMK11, kMK12, kMK13, kMK14, kMK15, kMK16, kMK17, kMK18, kMK19, kMK20, kMK21, kMK22, kMK23, kMK24, kMK25, kMK26, kMK27, kMK28, kMK29, kMK30, kMK31, kMK32, kMK33, kMK34, kMK35, kMK36, kMK37, kMK38, kMK39, kMK40, kMK41, kMK42, kMK43, kMK44, kMK45, kMK46, kMK47, kMK48, kMK49, kMK50, kMK51, kMK52, kMK53, kMK54, kMK55, kMK56, kMK57, kMK58, kMK59, kMK60, kMK61, kMK62, kMK63, kMK64, kMK65, kMK66, kMK67, kMK68, kMK69, kMK70, kMK71, kMK72, kMK73, kMK74, kMK75, kMK76, kMK77, kMK78, kMK79, kMK80, kMK81, kMK82, kMK83, kMK84, kMK85, kMK86, kMK87, kMK88, kMK89, kMK90, kMK91, kMK92, kMK93, kMK94, kMK95, kMK96, kMK97, kMK98, kMK99, kMK100, kMK101, kMK102, kMK103, kMK104, p1, p2, hY, hi, c1, z1, z2, z3, c2, c3, and_self, if_true, if_false, zup_zpr, zpr_at, zpr_zpr]
    refine ih _ ⟨by omega, fun q q0 q1 => ?_, fun j hj => ?_⟩
    · rw [zrw_if]
      by_cases e : q = i
      · rw [if_pos (by omega), e]
      · rw [if_neg (by omega)]; exact hI q q0 (by omega)
    · rw [zrw_ne (by omega)]; exact hJ j hj
  · rintro g ⟨-, hI, hJ⟩
    refine ⟨g, ?_, hI, hJ⟩
    rw [s272_18]
    simp only [s272_0, s272_1, s272_4, s272_6, s272_9, s272_11, s272_12, s272_13, s272_16, s272_17, s272_19, s272_21, s272_24, s272_25, s272_28, s272_30, s272_31, s272_34, s272_35, s272_36, s272_37, s272_38, s272_41, s272_42, s272_43, s272_44, s272_47, s272_51, s272_54, s272_55, s272_56, s272_59, s272_60, s272_61, s272_64, s272_65, s272_66, s272_69, s272_70, s272_71, s272_74, s272_75, s272_76, s272_77, s272_78, s272_81, s272_82, s272_83, s272_86, s272_87, s272_88, s272_91, s272_92, s272_93, s272_94, s272_95, s272_98, s272_99, s272_100, s272_103, s272_104, s272_105, s272_108, s272_109, s272_110, s272_111, s272_112, s272_115, s272_116, s272_117, s272_118, s272_121, s272_122, s272_123, s272_126, s272_127, s272_130, zps_0, zps_1, zps_2, zps_3, zps_9, Option.bind_some, Option.bind_none, Int.reduceEq, Int.reduceNe, Int.reduceLT, Int.reduceLE, Int.reduceNeg, Int.reduceAdd, Int.reduceSub, Int.reduceMul, reduceIte, if_true, if_false, true_and, and_true, false_and, and_false, or_true, true_or, or_false, false_or, not_true_eq_false, not_false_eq_true, ite_not, z_b0, z_b1, z_b01, Int.le_refl, if_true]
theorem tz_myf (hM : MK R) (hY : w 100 6 = Y) (hy : 0 ≤ Y ∧ Y < 24) {us : Int} (wu : ∀ F, ev 274 0 [(2, 100)] [] R (zpr w 119 F) = some ((0, us), R, zpr w 119 F)) : ev 272 50 [(2, 100), (0, 64)] [] R w = some ((0, w 100 44), R, zpr (zpr w 119 (zrw (zrw (zrw (zrw (w 119) (4 * Y) (w 100 44)) (4 * Y + 1) (w 100 45)) (4 * Y + 2) (w 100 46)) (4 * Y + 3) us)) 100 (zrw (w 100) 6 (Y + 1))) := by
  have z0 : zw (4 * Y) = 4 * Y := zw_i (by omega) (by omega)
  have z1 : zw (4 * Y + 1) = 4 * Y + 1 := zw_i (by omega) (by omega)
  have z2 : zw (4 * Y + 2) = 4 * Y + 2 := zw_i (by omega) (by omega)
  have z3 : zw (4 * Y + 3) = 4 * Y + 3 := zw_i (by omega) (by omega)
  have z4 : zw (Y + 1) = Y + 1 := zw_i (by omega) (by omega)
  have c0 : 0 ≤ 4 * Y ∧ 4 * Y < 96 := by omega
  have c1 : 0 ≤ 4 * Y + 1 ∧ 4 * Y + 1 < 96 := by omega
  have c2 : 0 ≤ 4 * Y + 2 ∧ 4 * Y + 2 < 96 := by omega
  have c3 : 0 ≤ 4 * Y + 3 ∧ 4 * Y + 3 < 96 := by omega
  have P : ∀ F, zpr w 119 F 100 = w 100 := fun F => zpr_ne (by decide)
  simp only [s272_0, s272_1, s272_4, s272_6, s272_9, s272_11, s272_12, s272_13, s272_16, s272_17, s272_19, s272_21, s272_24, s272_25, s272_28, s272_30, s272_31, s272_34, s272_35, s272_36, s272_37, s272_38, s272_41, s272_42, s272_43, s272_44, s272_47, s272_50, s272_51, s272_54, s272_55, s272_56, s272_59, s272_60, s272_61, s272_64, s272_65, s272_66, s272_69, s272_70, s272_71, s272_74, s272_75, s272_76, s272_77, s272_78, s272_81, s272_82, s272_83, s272_86, s272_87, s272_88, s272_91, s272_92, s272_93, s272_94, s272_95, s272_98, s272_99, s272_100, s272_103, s272_104, s272_105, s272_108, s272_109, s272_110, s272_111, s272_112, s272_115, s272_116, s272_117, s272_118, s272_121, s272_122, s272_123, s272_126, s272_127, s272_130, zps_0, zps_1, zps_2, zps_3, zps_9, Option.bind_some, Option.bind_none, Int.reduceEq, Int.reduceNe, Int.reduceLT, Int.reduceLE, Int.reduceNeg, Int.reduceAdd, Int.reduceSub, Int.reduceMul, reduceIte, if_true, if_false, true_and, and_true, false_and, and_false, or_true, true_or, or_false, false_or, not_true_eq_false, not_false_eq_true, ite_not, z_b0, z_b1, z_b01, rMK0 hM, rMK1 hM, rMK2 hM, rMK3 hM, rMK4 hM, rMK5 hM, rMK6 hM, rMK7 hM, rMK8 hM, rMK9 hM, rMK10 hM, rMK11 hM, rMK12 hM, rMK13 hM, rMK14 hM, rMK15 hM, rMK16 hM, rMK17 hM, rMK18 hM, rMK19 hM, rMK20 hM, rMK21 hM, rMK22 hM, rMK23 hM, rMK24 hM, rMK25 hM, rMK26 hM, rMK27 hM, rMK28 hM, rMK29 hM, rMK30 hM, rMK31 hM, rMK32 hM, rMK33 hM, rMK34 hM, rMK35 hM, rMK36 hM, rMK37 hM, rMK38 hM, rMK39 hM, rMK40 hM, rMK41 hM, rMK42 hM, rMK43 hM, rMK44 hM, rMK45 hM, rMK46 hM, rMK47 hM, rMK48 hM, rMK49 hM, rMK50 hM, rMK51 hM, kMK0, kMK1, kMK2, kMK3, kMK4, kMK5, kMK6, kMK7, kMK8, kMK9, kMK10, kMK11, kMK12, kMK13, kMK14, kMK15, kMK16, kMK17, kMK18, kMK19, kMK20, kMK21, kMK22, kMK23, kMK24, kMK25, kMK26, kMK27, kMK28, kMK29, kMK30, kMK31, kMK32, kMK33, kMK34, kMK35, kMK36, kMK37, kMK38, kMK39, kMK40, kMK41, kMK42, kMK43, kMK44, kMK45, kMK46, kMK47, kMK48, kMK49, kMK50, kMK51, kMK52, kMK53, kMK54, kMK55, kMK56, kMK57, kMK58, kMK59, kMK60, kMK61, kMK62, kMK63, kMK64, kMK65, kMK66, kMK67, kMK68, kMK69, kMK70, kMK71, kMK72, kMK73, kMK74, kMK75, kMK76, kMK77, kMK78, kMK79, kMK80, kMK81, kMK82, kMK83, kMK84, kMK85, kMK86, kMK87, kMK88, kMK89, kMK90, kMK91, kMK92, kMK93, kMK94, kMK95, kMK96, kMK97, kMK98, kMK99, kMK100, kMK101, kMK102, kMK103, kMK104, P, hY, z0, z1, z2, z3, z4, c0, c1, c2, c3, wu, and_self, if_true, if_false, zup_zpr, zpr_at, zpr_zpr]
  have e44 : zrw (w 100) 6 (Y + 1) 44 = w 100 44 := zrw_ne (by decide)
  simp only [e44]
theorem top_year : Top 197 272 [] [(9, 0)] := by
  intro R m S0 K h hK0 hK
  have h' := h
  obtain ⟨hRT, hA, hT, hKA, hPA, hTP, hWT, hWL, ⟨ntr, hTR⟩, ⟨npl, hPL⟩, hNT, hSH⟩ := h'
  obtain ⟨hT2, hT30, hL68, hGK, hAK, hXK, hWK, hPK, hQK, hNK, hCK, hM⟩ := hRT.1
  obtain ⟨en, nc⟩ := TR_nc hT
  have ey := (TR_y hT).1
  have yb := TR_yb hT
  have hn := TR_n3 hT
  have n64 := MV_n hT.1.2.1
  by_cases c : m 2 3 < 24
  · have cm : ¬ m 100 6 = 24 := by omega
    have hch := hT.2.2.2.2.1
    obtain ⟨m1, Q, fin, zpi, G1, hY⟩ := tz_grow hT2 (TR_TG hT) (TR_SQ hT) ⟨yb.1, c⟩ ⟨hch.1, by omega⟩
    have hY' := hY
    obtain ⟨fr, -, y3, -, -, -, yu, yuo, yf, yfo⟩ := hY'
    simp only [Int.reduceAdd] at fr yu yuo yf yfo G1 en
    have r1 : ∀ b, b < 2 ∨ b = 3 ∨ b = 4 ∨ b = 5 ∨ 29 < b → m1 b = m b := fun b hb => fr b (by simp only [List.mem_cons, List.not_mem_nil, or_false]; omega)
    have hT' : TR m m1 2 := TR_c (fun _ _ _ => rfl) ⟨fun a a0 a1 => r1 a (by omega), by rw [r1 100 (by omega)], by rw [r1 100 (by omega)], by rw [r1 100 (by omega)], by rw [r1 100 (by omega)], by rw [r1 100 (by omega)], by rw [r1 100 (by omega)]⟩ hT
    obtain ⟨g, G2, gT, ⟨gr, gk⟩, gu, gus, g44, g45, g46, gV⟩ := TR_yr hM hT' fin zpi hY c
    have r2 : ∀ b, (b < 100 ∨ b = 101 ∨ b = 102 ∨ (104 < b ∧ b < 110) ∨ (113 < b ∧ b < 124) ∨ 129 < b) → g b = m1 b := fun b hb => gr b (by simp only [List.mem_cons, List.not_mem_nil, or_false]; omega) (by omega)
    have k2 : ∀ k, k ≠ 7 → k < 44 ∨ 46 < k → g 100 k = m 100 k := fun k k7 hk => by rw [gk k (by simp only [List.mem_cons, List.not_mem_nil, or_false]; omega), r1 100 (by omega)]
    have g6 : g 100 6 = m 2 3 := by rw [k2 6 (by decide) (by decide), ey]
    obtain ⟨f, L1, L2, L3⟩ := tz_myl (R := R) hM g6 ⟨yb.1, c⟩
    obtain ⟨w, hw⟩ : ∃ w, zpr g 118 f = w := ⟨_, rfl⟩
    rw [hw] at L1
    have w100 : w 100 = g 100 := by rw [← hw, zpr_ne (by decide)]
    have w103 : w 103 = g 103 := by rw [← hw, zpr_ne (by decide)]
    have wu : ∀ F, ev 274 0 [(2, 100)] [] R (zpr w 119 F) = some ((0, mN g - zuses (mN g) (g 103) 0), R, zpr w 119 F) := fun F => by
      have e1 : zpr w 119 F 100 = g 100 := by rw [zpr_ne (by decide), w100]
      have e3 : zpr w 119 F 103 = g 103 := by rw [zpr_ne (by decide), w103]
      have eN : mN (zpr w 119 F) = mN g := by unfold mN; rw [e1]
      have v : MV (zpr w 119 F) := by
        unfold MV
        rw [eN, e1, e3, zpr_ne (show (101 : Int) ≠ 119 by decide), zpr_ne (show (102 : Int) ≠ 119 by decide), ← hw, zpr_ne (show (101 : Int) ≠ 118 by decide), zpr_ne (show (102 : Int) ≠ 118 by decide)]
        exact gV
      have := tz_withUse (R := R) hM v
      rw [this, eN, e3]
    have TL := tz_myf (R := R) (w := w) hM (by rw [w100]; exact g6) ⟨yb.1, c⟩ wu
    obtain ⟨x, hx⟩ : ∃ x, zpr (zpr w 119 (zrw (zrw (zrw (zrw (w 119) (4 * m 2 3) (w 100 44)) (4 * m 2 3 + 1) (w 100 45)) (4 * m 2 3 + 2) (w 100 46)) (4 * m 2 3 + 3) (mN g - zuses (mN g) (g 103) 0))) 100 (zrw (w 100) 6 (m 2 3 + 1)) = x := ⟨_, rfl⟩
    rw [hx] at TL
    have eN1 : mN m1 = mN m := by unfold mN; rw [r1 100 (by omega)]
    have eNg : mN g = mN m := by unfold mN; rw [k2 0 (by decide) (by decide), k2 1 (by decide) (by decide)]
    rw [eN1] at gu gus
    rw [eNg] at hx
    have xr : ∀ b, b ≠ 100 → b ≠ 118 → b ≠ 119 → x b = g b := fun b b1 b2 b3 => by rw [← hx, zpr_ne b1, zpr_ne b3, ← hw, zpr_ne b2]
    have xk : ∀ k, k ≠ 6 → x 100 k = g 100 k := fun k hk => by rw [← hx, zpr_at, zrw_ne hk, w100]
    have x6 : x 100 6 = m 2 3 + 1 := by rw [← hx, zpr_at, zrw_at]
    have x118 : x 118 = f := by rw [← hx, zpr_ne (by decide), zpr_ne (by decide), ← hw, zpr_at]
    have x119 : x 119 = zrw (zrw (zrw (zrw (m 119) (4 * m 2 3) (g 100 44)) (4 * m 2 3 + 1) (g 100 45)) (4 * m 2 3 + 2) (g 100 46)) (4 * m 2 3 + 3) (mN m - zuses (mN m) (g 103) 0) := by
      rw [← hx, zpr_ne (by decide), zpr_at, w100, ← hw, zpr_ne (show (119 : Int) ≠ 118 by decide), r2 119 (by omega), r1 119 (by omega)]
    have g118 : g 118 = m 118 := by rw [r2 118 (by omega), r1 118 (by omega)]
    have w44 : w 100 44 = g 100 44 := by rw [w100]
    have h44 : g 100 44 = zcnt (fun s => decide (0 ≤ Q.1 s)) (m 11 0).toNat := g44
    have h45 : g 100 45 = zcnt (gLv m 2 Q) (m 11 0).toNat := g45
    rw [hn] at yu
    have xT : TR x x 2 := TR_c (fun a a0 a1 => by rw [xr a (by omega) (by omega) (by omega), r2 a (by omega)]) ⟨fun a a0 a1 => by rw [xr a (by omega) (by omega) (by omega), zpr_ne (by omega)], by rw [xk 0 (by decide), zpr_at, zrw_ne (by decide)], by rw [xk 1 (by decide), zpr_at, zrw_ne (by decide)], by rw [x6, zpr_at, zrw_at], by rw [xk 7 (by decide), zpr_at, zrw_ne (by decide)], by rw [xk 8 (by decide), zpr_at, zrw_ne (by decide)], by rw [xk 10 (by decide), zpr_at, zrw_ne (by decide)]⟩ gT
    have xm : ∀ b, (b < 2 ∨ b = 3 ∨ b = 4 ∨ b = 5 ∨ (29 < b ∧ b < 100) ∨ b = 101 ∨ b = 102 ∨ (104 < b ∧ b < 110) ∨ (113 < b ∧ b < 118) ∨ (119 < b ∧ b < 124) ∨ 129 < b) → x b = m b := fun b hb => by rw [xr b (by omega) (by omega) (by omega), r2 b (by omega), r1 b (by omega)]
    have xk2 : ∀ k, k ≠ 6 → k ≠ 7 → k < 44 ∨ 46 < k → x 100 k = m 100 k := fun k k6 k7 hk => by rw [xk k k6, k2 k k7 hk]
    have x23 : x 2 3 = m 2 3 + 1 := by rw [xr 2 (by decide) (by decide) (by decide), r2 2 (by omega)]; exact y3
    have x27 : x 27 = m1 27 := by rw [xr 27 (by decide) (by decide) (by decide), r2 27 (by omega)]
    have x28 : x 28 = m1 28 := by rw [xr 28 (by decide) (by decide) (by decide), r2 28 (by omega)]
    have eNx : mN x = mN m := by unfold mN; rw [xk2 0 (by decide) (by decide) (by decide), xk2 1 (by decide) (by decide) (by decide)]
    have xP : PAs x := by
      unfold PAs
      rw [x23, eNx, x27, x28, x118]
      refine ⟨fun y p y0 y1 p0 p1 => ?_, fun y i y0 y1 i0 i1 => ?_⟩
      · by_cases e : y = m 2 3
        · rw [e, yu p p0 p1, gu p p0 p1, L2 p p0 (by omega)]
        · rw [yuo _ (by omega), L3 _ (by omega), g118]
          exact hPA.1 y p y0 (by omega) p0 p1
      · rw [x119]
        by_cases e : y = m 2 3
        · rw [e]
          rcases (show i = 0 ∨ i = 1 ∨ i = 2 ∨ i = 3 by omega) with q | q | q | q <;> subst q
          · rw [Int.add_zero, zrw_ne (by omega), zrw_ne (by omega), zrw_ne (by omega), zrw_at, yf.1, h44]
          · rw [zrw_ne (by omega), zrw_ne (by omega), zrw_at, yf.2.1, h45]
          · rw [zrw_ne (by omega), zrw_at, yf.2.2.1, g46]
          · rw [zrw_at, yf.2.2.2, gus]
        · rw [yfo _ (by omega), zrw_ne (by omega), zrw_ne (by omega), zrw_ne (by omega), zrw_ne (by omega)]
          exact hPA.2 y i y0 (by omega) i0 i1
    refine ⟨zcnt (fun s => decide (0 ≤ Q.1 s)) (m 11 0).toNat, R, m1, x, ?_, ?_, ?_, fun _ _ _ => rfl⟩
    · simp only [s197_0, s197_1, s197_4, s197_7, s197_9, s197_12, s197_14, s197_17, s197_18, s197_21, s197_24, zps_0, zps_1, zps_2, zps_3, zps_9, Option.bind_some, Option.bind_none, Int.reduceEq, Int.reduceNe, Int.reduceLT, Int.reduceLE, Int.reduceNeg, Int.reduceAdd, Int.reduceSub, Int.reduceMul, reduceIte, if_true, if_false, true_and, and_true, false_and, and_false, or_true, true_or, or_false, false_or, not_true_eq_false, not_false_eq_true, ite_not, z_b0, z_b1, z_b01, rGK0 hGK, rGK1 hGK, rGK2 hGK, rGK3 hGK, rGK4 hGK, rGK5 hGK, rGK6 hGK, rGK7 hGK, rGK8 hGK, rGK9 hGK, kGK0, kd2, kd3, kd9, kd11, r2_0 hT2, r2_1 hT2, r2_2 hT2, c, G1, if_true, if_false]
    · have q6 : ¬ m1 100 6 = 24 := by rw [r1 100 (by omega)]; exact cm
      simp only [s272_0, s272_1, s272_4, s272_6, s272_9, s272_11, s272_12, s272_13, s272_16, s272_17, s272_19, s272_21, s272_24, s272_25, s272_28, s272_30, s272_31, s272_34, s272_35, s272_36, s272_37, s272_38, s272_41, s272_42, s272_43, s272_44, s272_47, s272_51, s272_54, s272_55, s272_56, s272_59, s272_60, s272_61, s272_64, s272_65, s272_66, s272_69, s272_70, s272_71, s272_74, s272_75, s272_76, s272_77, s272_78, s272_81, s272_82, s272_83, s272_86, s272_87, s272_88, s272_91, s272_92, s272_93, s272_94, s272_95, s272_98, s272_99, s272_100, s272_103, s272_104, s272_105, s272_108, s272_109, s272_110, s272_111, s272_112, s272_115, s272_116, s272_117, s272_118, s272_121, s272_122, s272_123, s272_126, s272_127, s272_130, zps_0, zps_1, zps_2, zps_3, zps_9, Option.bind_some, Option.bind_none, Int.reduceEq, Int.reduceNe, Int.reduceLT, Int.reduceLE, Int.reduceNeg, Int.reduceAdd, Int.reduceSub, Int.reduceMul, reduceIte, if_true, if_false, true_and, and_true, false_and, and_false, or_true, true_or, or_false, false_or, not_true_eq_false, not_false_eq_true, ite_not, z_b0, z_b1, z_b01, rMK0 hM, rMK1 hM, rMK2 hM, rMK3 hM, rMK4 hM, rMK5 hM, rMK6 hM, rMK7 hM, rMK8 hM, rMK9 hM, rMK10 hM, rMK11 hM, rMK12 hM, rMK13 hM, rMK14 hM, rMK15 hM, rMK16 hM, rMK17 hM, rMK18 hM, rMK19 hM, rMK20 hM, rMK21 hM, rMK22 hM, rMK23 hM, rMK24 hM, rMK25 hM, rMK26 hM, rMK27 hM, rMK28 hM, rMK29 hM, rMK30 hM, rMK31 hM, rMK32 hM, rMK33 hM, rMK34 hM, rMK35 hM, rMK36 hM, rMK37 hM, rMK38 hM, rMK39 hM, rMK40 hM, rMK41 hM, rMK42 hM, rMK43 hM, rMK44 hM, rMK45 hM, rMK46 hM, rMK47 hM, rMK48 hM, rMK49 hM, rMK50 hM, rMK51 hM, kMK0, kMK1, kMK2, kMK3, kMK4, kMK5, kMK6, kMK7, kMK8, kMK9, kMK10, kMK11, kMK12, kMK13, kMK14, kMK15, kMK16, kMK17, kMK18, kMK19, kMK20, kMK21, kMK22, kMK23, kMK24, kMK25, kMK26, kMK27, kMK28, kMK29, kMK30, kMK31, kMK32, kMK33, kMK34, kMK35, kMK36, kMK37, kMK38, kMK39, kMK40, kMK41, kMK42, kMK43, kMK44, kMK45, kMK46, kMK47, kMK48, kMK49, kMK50, kMK51, kMK52, kMK53, kMK54, kMK55, kMK56, kMK57, kMK58, kMK59, kMK60, kMK61, kMK62, kMK63, kMK64, kMK65, kMK66, kMK67, kMK68, kMK69, kMK70, kMK71, kMK72, kMK73, kMK74, kMK75, kMK76, kMK77, kMK78, kMK79, kMK80, kMK81, kMK82, kMK83, kMK84, kMK85, kMK86, kMK87, kMK88, kMK89, kMK90, kMK91, kMK92, kMK93, kMK94, kMK95, kMK96, kMK97, kMK98, kMK99, kMK100, kMK101, kMK102, kMK103, kMK104, q6, G2, L1, TL, w44, h44, if_true, if_false]
    · exact Rel_act h hRT (ARl_c6 (fun b b0 b1 => xm b (by omega)) (by rw [xm 58 (by omega)]) (fun b b0 => xm b (by omega)) (fun b b0 => xm b (by omega)) (xk2 0 (by decide) (by decide) (by decide)) (xk2 1 (by decide) (by decide) (by decide)) (by rw [x6]; omega) (xk2 10 (by decide) (by decide) (by decide)) (xk2 19 (by decide) (by decide) (by decide)) hA) xT xP (TPe_c (by rw [xm 63 (by omega)]) (by rw [xm 63 (by omega)]) (xm 64 (by omega)) (xk2 27 (by decide) (by decide) (by decide)) (xk2 28 (by decide) (by decide) (by decide)) (xm 120 (by omega)) (xm 122 (by omega)) (xm 123 (by omega)) hTP) (fun b hb => xm b (by omega)) (fun k hk' => xk2 k (by omega) (by omega) (by omega)) (Or.inl ⟨xm 3 (by omega), xm 4 (by omega), xm 5 (by omega), xm 101 (by omega), xm 102 (by omega)⟩)
  · have cm : m 100 6 = 24 := by omega
    refine ⟨-3, R, m, m, ?_, ?_, Rel_K h (by omega), fun _ _ _ => rfl⟩
    · simp only [s197_0, s197_1, s197_4, s197_7, s197_9, s197_12, s197_14, s197_17, s197_18, s197_21, s197_24, zps_0, zps_1, zps_2, zps_3, zps_9, Option.bind_some, Option.bind_none, Int.reduceEq, Int.reduceNe, Int.reduceLT, Int.reduceLE, Int.reduceNeg, Int.reduceAdd, Int.reduceSub, Int.reduceMul, reduceIte, if_true, if_false, true_and, and_true, false_and, and_false, or_true, true_or, or_false, false_or, not_true_eq_false, not_false_eq_true, ite_not, z_b0, z_b1, z_b01, rGK0 hGK, rGK1 hGK, rGK2 hGK, rGK3 hGK, rGK4 hGK, rGK5 hGK, rGK6 hGK, rGK7 hGK, rGK8 hGK, rGK9 hGK, kGK0, kd2, kd3, kd9, kd11, r2_0 hT2, r2_1 hT2, r2_2 hT2, c, if_true, if_false]
    · simp only [s272_0, s272_1, s272_4, s272_6, s272_9, s272_11, s272_12, s272_13, s272_16, s272_17, s272_19, s272_21, s272_24, s272_25, s272_28, s272_30, s272_31, s272_34, s272_35, s272_36, s272_37, s272_38, s272_41, s272_42, s272_43, s272_44, s272_47, s272_50, s272_51, s272_54, s272_55, s272_56, s272_59, s272_60, s272_61, s272_64, s272_65, s272_66, s272_69, s272_70, s272_71, s272_74, s272_75, s272_76, s272_77, s272_78, s272_81, s272_82, s272_83, s272_86, s272_87, s272_88, s272_91, s272_92, s272_93, s272_94, s272_95, s272_98, s272_99, s272_100, s272_103, s272_104, s272_105, s272_108, s272_109, s272_110, s272_111, s272_112, s272_115, s272_116, s272_117, s272_118, s272_121, s272_122, s272_123, s272_126, s272_127, s272_130, zps_0, zps_1, zps_2, zps_3, zps_9, Option.bind_some, Option.bind_none, Int.reduceEq, Int.reduceNe, Int.reduceLT, Int.reduceLE, Int.reduceNeg, Int.reduceAdd, Int.reduceSub, Int.reduceMul, reduceIte, if_true, if_false, true_and, and_true, false_and, and_false, or_true, true_or, or_false, false_or, not_true_eq_false, not_false_eq_true, ite_not, z_b0, z_b1, z_b01, rMK0 hM, rMK1 hM, rMK2 hM, rMK3 hM, rMK4 hM, rMK5 hM, rMK6 hM, rMK7 hM, rMK8 hM, rMK9 hM, rMK10 hM, rMK11 hM, rMK12 hM, rMK13 hM, rMK14 hM, rMK15 hM, rMK16 hM, rMK17 hM, rMK18 hM, rMK19 hM, rMK20 hM, rMK21 hM, rMK22 hM, rMK23 hM, rMK24 hM, rMK25 hM, rMK26 hM, rMK27 hM, rMK28 hM, rMK29 hM, rMK30 hM, rMK31 hM, rMK32 hM, rMK33 hM, rMK34 hM, rMK35 hM, rMK36 hM, rMK37 hM, rMK38 hM, rMK39 hM, rMK40 hM, rMK41 hM, rMK42 hM, rMK43 hM, rMK44 hM, rMK45 hM, rMK46 hM, rMK47 hM, rMK48 hM, rMK49 hM, rMK50 hM, rMK51 hM, kMK0, kMK1, kMK2, kMK3, kMK4, kMK5, kMK6, kMK7, kMK8, kMK9, kMK10, kMK11, kMK12, kMK13, kMK14, kMK15, kMK16, kMK17, kMK18, kMK19, kMK20, kMK21, kMK22, kMK23, kMK24, kMK25, kMK26, kMK27, kMK28, kMK29, kMK30, kMK31, kMK32, kMK33, kMK34, kMK35, kMK36, kMK37, kMK38, kMK39, kMK40, kMK41, kMK42, kMK43, kMK44, kMK45, kMK46, kMK47, kMK48, kMK49, kMK50, kMK51, kMK52, kMK53, kMK54, kMK55, kMK56, kMK57, kMK58, kMK59, kMK60, kMK61, kMK62, kMK63, kMK64, kMK65, kMK66, kMK67, kMK68, kMK69, kMK70, kMK71, kMK72, kMK73, kMK74, kMK75, kMK76, kMK77, kMK78, kMK79, kMK80, kMK81, kMK82, kMK83, kMK84, kMK85, kMK86, kMK87, kMK88, kMK89, kMK90, kMK91, kMK92, kMK93, kMK94, kMK95, kMK96, kMK97, kMK98, kMK99, kMK100, kMK101, kMK102, kMK103, kMK104, cm, if_true, if_false]
end YEARX
