/-! laws: the model copies the laws read to the laws told and to the act -/
section LCOPY
variable {R m x y w z : zM} {a : Int}
theorem zpr_sw2 (w : zM) (g F h : Int → Int) : zpr (zpr (zpr w 105 g) 117 F) 105 h = zpr (zpr w 105 h) 117 F := by
  funext b
  by_cases b1 : b = 105
  · rw [b1, zpr_at, zpr_ne (by decide), zpr_at]
  · rw [zpr_ne b1]
    by_cases b2 : b = 117
    · rw [b2, zpr_at, zpr_at]
    · rw [zpr_ne b2, zpr_ne b2, zpr_ne b1, zpr_ne b1]
theorem tz_mlcopy (hM : MK R) (ha : w 100 19 = a) (ha2 : 0 ≤ a ∧ a < 60) : ∃ g h : Int → Int, ev 241 90 [(2, 100), (0, 0)] [] R w = ev 241 134 [(2, 100), (0, 84)] [] R (zpr (zpr w 105 g) 117 h) ∧ (∀ i, 0 ≤ i → i < 84 → g i = w 121 i ∧ h (84 * a + i) = w 121 i) ∧ ∀ j, ¬ (84 * a ≤ j ∧ j < 84 * a + 84) → h j = w 117 j := by
  have L0 : ev 241 90 [(2, 100), (0, 0)] [] R w = ev 241 90 [(2, 100), (0, 0)] [] R (zpr (zpr w 105 (w 105)) 117 (w 117)) := by
    have e : zpr (zpr w 105 (w 105)) 117 (w 117) = w := by rw [zpr_self]; exact zpr_self w 117
    rw [e]
  rw [L0]
  refine zloop (fun r => ∃ g h : Int → Int, r = ev 241 134 [(2, 100), (0, 84)] [] R (zpr (zpr w 105 g) 117 h) ∧ (∀ i, 0 ≤ i → i < 84 → g i = w 121 i ∧ h (84 * a + i) = w 121 i) ∧ ∀ j, ¬ (84 * a ≤ j ∧ j < 84 * a + 84) → h j = w 117 j) (fun i (s : (Int → Int) × (Int → Int)) => ev 241 90 [(2, 100), (0, i)] [] R (zpr (zpr w 105 s.1) 117 s.2)) 84 (fun i s => 0 ≤ i ∧ (∀ k, 0 ≤ k → k < i → s.1 k = w 121 k ∧ s.2 (84 * a + k) = w 121 k) ∧ ∀ j, ¬ (84 * a ≤ j ∧ j < 84 * a + 84) → s.2 j = w 117 j) ?_ ?_ 0 (w 105, w 117) (by omega) ⟨by omega, fun k k0 k1 => by omega, fun j hj => rfl⟩
  · rintro i ⟨g, h⟩ hi ⟨i0, hI, hJ⟩ ih
    dsimp only at hI hJ ih ⊢
    have d1 : ¬ 84 ≤ i := by omega
    have z1 : zw (84 * a) = 84 * a := zw_i (by omega) (by omega)
    have z2 : zw (84 * a + i) = 84 * a + i := zw_i (by omega) (by omega)
    have z4 : zw (i + 1) = i + 1 := zw_i (by omega) (by omega)
    have c1 : 0 ≤ i ∧ i < 84 := by omega
    have c2 : 0 ≤ 84 * a + i ∧ 84 * a + i < 5040 := by omega
    have r121 : ∀ g h : Int → Int, zpr (zpr w 105 g) 117 h 121 = w 121 := fun g h => by rw [zpr_ne (by decide), zpr_ne (by decide)]
    have r100 : ∀ g h : Int → Int, zpr (zpr w 105 g) 117 h 100 = w 100 := fun g h => by rw [zpr_ne (by decide), zpr_ne (by decide)]
    have r105 : ∀ g h : Int → Int, zpr (zpr w 105 g) 117 h 105 = g := fun g h => by rw [zpr_ne (by decide), zpr_at]
    rw [s241_90]
    simp only [s241_0, s241_1, s241_4, s241_6, s241_9, s241_11, s241_12, s241_13, s241_14, s241_17, s241_18, s241_19, s241_22, s241_23, s241_24, s241_27, s241_28, s241_32, s241_35, s241_38, s241_39, s241_42, s241_45, s241_46, s241_49, s241_52, s241_53, s241_54, s241_57, s241_58, s241_59, s241_62, s241_65, s241_66, s241_69, s241_72, s241_74, s241_75, s241_78, s241_79, s241_80, s241_81, s241_82, s241_85, s241_88, s241_89, s241_91, s241_93, s241_96, s241_97, s241_100, s241_101, s241_102, s241_105, s241_106, s241_107, s241_108, s241_109, s241_112, s241_114, s241_115, s241_118, s241_119, s241_120, s241_121, s241_122, s241_125, s241_126, s241_127, s241_128, s241_131, s241_135, s241_136, s241_137, s241_140, s241_141, s241_142, s241_143, s241_146, s241_147, s241_150, zps_0, zps_1, zps_2, zps_3, zps_9, Option.bind_some, Option.bind_none, Int.reduceEq, Int.reduceNe, Int.reduceLT, Int.reduceLE, Int.reduceNeg, Int.reduceAdd, Int.reduceSub, Int.reduceMul, reduceIte, if_true, if_false, true_and, and_true, false_and, and_false, or_true, true_or, or_false, false_or, not_true_eq_false, not_false_eq_true, ite_not, z_b0, z_b1, z_b01, rMK0 hM, rMK1 hM, rMK2 hM, rMK3 hM, rMK4 hM, rMK5 hM, rMK6 hM, rMK7 hM, rMK8 hM, rMK9 hM, rMK10 hM, rMK11 hM, rMK12 hM, rMK13 hM, rMK14 hM, rMK15 hM, rMK16 hM, rMK17 hM, rMK18 hM, rMK19 hM, rMK20 hM, rMK21 hM, rMK22 hM, rMK23 hM, rMK24 hM, rMK25 hM, rMK26 hM, rMK27 hM, rMK28 hM, rMK29 hM, rMK30 hM, rMK31 hM, rMK32 hM, rMK33 hM, rMK34 hM, rMK35 hM, rMK36 hM, rMK37 hM, rMK38 hM, rMK39 hM, rMK40 hM, rMK41 hM, rMK42 hM, rMK43 hM, rMK44 hM, rMK45 hM, rMK46 hM, rMK47 hM, rMK48 hM, rMK49 hM, rMK50 hM, rMK51 hM, kMK0, kMK1, kMK2, kMK3, kMK4, kMK5, kMK6, kMK7, kMK8, kMK9, kMK10, kMK11, kMK12, kMK13, kMK14, kMK15, kMK16, kMK17, kMK18, kMK19, kMK20, kMK21, kMK22, kMK23, kMK24, kMK25, kMK26, kMK27, kMK28, kMK29, kMK30, kMK31, kMK32, kMK33, kMK34, kMK35, kMK36, kMK37, kMK38, kMK39, kMK40, kMK41, kMK42, kMK43, kMK44, kMK45, kMK46, kMK47, kMK48, kMK49, kMK50, kMK51, kMK52, kMK53, kMK54, kMK55, kMK56, kMK57, kMK58, kMK59, kMK60, kMK61, kMK62, kMK63, kMK64, kMK65, kMK66, kMK67, kMK68, kMK69, kMK70, kMK71, kMK72, kMK73, kMK74, kMK75, kMK76, kMK77, kMK78, kMK79, kMK80, kMK81, kMK82, kMK83, kMK84, kMK85, kMK86, kMK87, kMK88, kMK89, kMK90, kMK91, kMK92, kMK93, kMK94, kMK95, kMK96, kMK97, kMK98, kMK99, kMK100, kMK101, kMK102, kMK103, kMK104, r121, r100, r105, ha, hi, d1, z1, z2, z4, c1, c2, and_self, if_true, if_false, zup_zpr, zpr_sw2, zpr_at, zpr_zpr]
    refine ih (zrw g i (w 121 i), zrw h (84 * a + i) (w 121 i)) ⟨by omega, fun k k0 k1 => ?_, fun j hj => ?_⟩
    · dsimp only
      rw [zrw_if, zrw_if]
      by_cases e : k = i
      · rw [if_pos e, if_pos (by omega), e]; exact ⟨rfl, rfl⟩
      · rw [if_neg e, if_neg (by omega)]; exact hI k k0 (by omega)
    · dsimp only
      rw [zrw_ne (by omega)]; exact hJ j hj
  · rintro ⟨g, h⟩ ⟨-, hI, hJ⟩
    refine ⟨g, h, ?_, hI, hJ⟩
    dsimp only
    rw [s241_90]
    simp only [s241_0, s241_1, s241_4, s241_6, s241_9, s241_11, s241_12, s241_13, s241_14, s241_17, s241_18, s241_19, s241_22, s241_23, s241_24, s241_27, s241_28, s241_32, s241_35, s241_38, s241_39, s241_42, s241_45, s241_46, s241_49, s241_52, s241_53, s241_54, s241_57, s241_58, s241_59, s241_62, s241_65, s241_66, s241_69, s241_72, s241_74, s241_75, s241_78, s241_79, s241_80, s241_81, s241_82, s241_85, s241_88, s241_89, s241_91, s241_93, s241_96, s241_97, s241_100, s241_101, s241_102, s241_105, s241_106, s241_107, s241_108, s241_109, s241_112, s241_114, s241_115, s241_118, s241_119, s241_120, s241_121, s241_122, s241_125, s241_126, s241_127, s241_128, s241_131, s241_135, s241_136, s241_137, s241_140, s241_141, s241_142, s241_143, s241_146, s241_147, s241_150, zps_0, zps_1, zps_2, zps_3, zps_9, Option.bind_some, Option.bind_none, Int.reduceEq, Int.reduceNe, Int.reduceLT, Int.reduceLE, Int.reduceNeg, Int.reduceAdd, Int.reduceSub, Int.reduceMul, reduceIte, if_true, if_false, true_and, and_true, false_and, and_false, or_true, true_or, or_false, false_or, not_true_eq_false, not_false_eq_true, ite_not, z_b0, z_b1, z_b01, Int.le_refl, if_true]
end LCOPY
