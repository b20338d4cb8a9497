/-! the model puts its town aside and brings it back -/
def ASF (w : zM) (f : Int → Int) : Prop := (∀ p, 0 ≤ p → p < 64 → f p = w 101 p ∧ f (64 + p) = w 102 p ∧ f (128 + p) = w 103 p ∧ f (192 + p) = w 104 p) ∧ (∀ s, 0 ≤ s → s < 20 → f (256 + s) = w 110 s ∧ f (276 + s) = w 111 s ∧ f (296 + s) = w 112 s ∧ f (316 + s) = w 113 s) ∧ (∀ k, 0 ≤ k → k < 84 → f (336 + k) = w 105 k) ∧ f 420 = w 100 8 ∧ f 421 = w 100 10 ∧ f 422 = w 100 6 ∧ f 423 = w 100 7
section ASIDE
variable {R w : zM}
theorem tz_putAside (hM : MK R) : ∃ f : Int → Int, ev 280 0 [(2, 100), (9, 0)] [] R w = some ((9, 0), R, zpr w 130 f) ∧ ASF w f := by
  obtain ⟨W, hW⟩ : ∃ W : (Int → Int) → zM, ∀ f, W f = zpr w 130 f := ⟨_, fun _ => rfl⟩
  have n : ∀ f a, a ≠ 130 → W f a = w a := fun f a h => by rw [hW, zpr_ne h]
  have n1 := fun f => n f 101 (by decide)
  have n2 := fun f => n f 102 (by decide)
  have n3 := fun f => n f 103 (by decide)
  have n4 := fun f => n f 104 (by decide)
  have n5 := fun f => n f 105 (by decide)
  have n6 := fun f => n f 110 (by decide)
  have n7 := fun f => n f 111 (by decide)
  have n8 := fun f => n f 112 (by decide)
  have n9 := fun f => n f 113 (by decide)
  have n0 := fun f => n f 100 (by decide)
  have e30 : ∀ f, W f 130 = f := fun f => by rw [hW, zpr_at]
  have p30 : ∀ f g, zpr (W f) 130 g = W g := fun f g => by rw [hW, hW, zpr_zpr]
  have L1 : ∀ (k : Int) f, 0 ≤ k → k < 64 → ev 280 2 [(2, 100), (0, k)] [] R (W f) = ev 280 2 [(2, 100), (0, k + 1)] [] R (W (zrw (zrw (zrw (zrw f k (w 101 k)) (64 + k) (w 102 k)) (128 + k) (w 103 k)) (192 + k) (w 104 k))) := by
    intro k f k0 k1
    have c : ¬ 64 ≤ k := by omega
    have z0 : zw (k + 1) = k + 1 := zw_i (by omega) (by omega)
    have z1 : zw (64 + k) = 64 + k := zw_i (by omega) (by omega)
    have z2 : zw (128 + k) = 128 + k := zw_i (by omega) (by omega)
    have z3 : zw (192 + k) = 192 + k := zw_i (by omega) (by omega)
    have c0 : 0 ≤ k ∧ k < 512 := by omega
    have c1 : 0 ≤ 64 + k ∧ 64 + k < 512 := by omega
    have c2 : 0 ≤ 128 + k ∧ 128 + k < 512 := by omega
    have c3 : 0 ≤ 192 + k ∧ 192 + k < 512 := by omega
    rw [s280_2]
    simp only [s280_0, s280_1, s280_3, s280_5, s280_8, s280_9, s280_12, s280_13, s280_14, s280_17, s280_18, s280_19, s280_20, s280_21, s280_24, s280_26, s280_27, s280_28, s280_29, s280_32, s280_33, s280_34, s280_35, s280_36, s280_39, s280_42, s280_43, s280_44, s280_45, s280_48, s280_49, s280_50, s280_51, s280_52, s280_55, s280_58, s280_59, s280_60, s280_61, s280_64, s280_65, s280_66, s280_67, s280_70, s280_73, s280_74, s280_76, s280_78, s280_81, s280_82, s280_85, s280_88, s280_89, s280_90, s280_91, s280_94, s280_95, s280_96, s280_97, s280_98, s280_101, s280_104, s280_105, s280_106, s280_107, s280_110, s280_111, s280_112, s280_113, s280_114, s280_117, s280_120, s280_121, s280_122, s280_123, s280_126, s280_127, s280_128, s280_129, s280_130, s280_133, s280_136, s280_137, s280_138, s280_139, s280_142, s280_143, s280_144, s280_145, s280_148, s280_151, s280_152, s280_154, s280_156, s280_159, s280_160, s280_163, s280_166, s280_167, s280_168, s280_169, s280_172, s280_173, s280_174, s280_175, s280_178, s280_181, s280_182, s280_185, s280_188, s280_189, s280_192, s280_193, s280_194, s280_197, s280_200, s280_201, s280_204, s280_205, s280_206, s280_209, s280_212, s280_213, s280_216, s280_217, s280_218, s280_221, s280_224, s280_225, s280_228, s280_229, zps_0, zps_1, zps_2, zps_3, zps_9, Option.bind_some, Option.bind_none, Int.reduceEq, Int.reduceNe, Int.reduceLT, Int.reduceLE, Int.reduceNeg, Int.reduceAdd, Int.reduceSub, Int.reduceMul, reduceIte, if_true, if_false, true_and, and_true, false_and, and_false, or_true, true_or, or_false, false_or, not_true_eq_false, not_false_eq_true, ite_not, z_b0, z_b1, z_b01, rMK0 hM, rMK1 hM, rMK2 hM, rMK3 hM, rMK4 hM, rMK5 hM, rMK6 hM, rMK7 hM, rMK8 hM, rMK9 hM, rMK10 hM, rMK11 hM, rMK12 hM, rMK13 hM, rMK14 hM, rMK15 hM, rMK16 hM, rMK17 hM, rMK18 hM, rMK19 hM, rMK20 hM, rMK21 hM, rMK22 hM, rMK23 hM, rMK24 hM, rMK25 hM, rMK26 hM, rMK27 hM, rMK28 hM, rMK29 hM, rMK30 hM, rMK31 hM, rMK32 hM, rMK33 hM, rMK34 hM, rMK35 hM, rMK36 hM, rMK37 hM, rMK38 hM, rMK39 hM, rMK40 hM, rMK41 hM, rMK42 hM, rMK43 hM, rMK44 hM, rMK45 hM, rMK46 hM, rMK47 hM, rMK48 hM, rMK49 hM, rMK50 hM, rMK51 hM, kMK0, kMK1, kMK2, kMK3, kMK4, kMK5, kMK6, kMK7, kMK8, kMK9, kMK10, kMK11, kMK12, kMK13, kMK14, kMK15, kMK16, kMK17, kMK18, kMK19, kMK20, kMK21, kMK22, kMK23, kMK24, kMK25, kMK26, kMK27, kMK28, kMK29, kMK30, kMK31, kMK32, kMK33, kMK34, kMK35, kMK36, kMK37, kMK38, kMK39, kMK40, kMK41, kMK42, kMK43, kMK44, kMK45, kMK46, kMK47, kMK48, kMK49, kMK50, kMK51, kMK52, kMK53, kMK54, kMK55, kMK56, kMK57, kMK58, kMK59, kMK60, kMK61, kMK62, kMK63, kMK64, kMK65, kMK66, kMK67, kMK68, kMK69, kMK70, kMK71, kMK72, kMK73, kMK74, kMK75, kMK76, kMK77, kMK78, kMK79, kMK80, kMK81, kMK82, kMK83, kMK84, kMK85, kMK86, kMK87, kMK88, kMK89, kMK90, kMK91, kMK92, kMK93, kMK94, kMK95, kMK96, kMK97, kMK98, kMK99, kMK100, kMK101, kMK102, kMK103, kMK104, c, k0, k1, z0, z1, z2, z3, c0, c1, c2, c3, n1, n2, n3, n4, zup_zpr, e30, p30, and_self, if_true, if_false]
  have L1x : ∀ f, ev 280 2 [(2, 100), (0, 64)] [] R (W f) = ev 280 75 [(2, 100), (0, 0)] [] R (W f) := by
    intro f
    rw [s280_2]
    simp only [s280_0, s280_1, s280_3, s280_5, s280_8, s280_9, s280_12, s280_13, s280_14, s280_17, s280_18, s280_19, s280_20, s280_21, s280_24, s280_26, s280_27, s280_28, s280_29, s280_32, s280_33, s280_34, s280_35, s280_36, s280_39, s280_42, s280_43, s280_44, s280_45, s280_48, s280_49, s280_50, s280_51, s280_52, s280_55, s280_58, s280_59, s280_60, s280_61, s280_64, s280_65, s280_66, s280_67, s280_70, s280_73, s280_74, s280_76, s280_78, s280_81, s280_82, s280_85, s280_88, s280_89, s280_90, s280_91, s280_94, s280_95, s280_96, s280_97, s280_98, s280_101, s280_104, s280_105, s280_106, s280_107, s280_110, s280_111, s280_112, s280_113, s280_114, s280_117, s280_120, s280_121, s280_122, s280_123, s280_126, s280_127, s280_128, s280_129, s280_130, s280_133, s280_136, s280_137, s280_138, s280_139, s280_142, s280_143, s280_144, s280_145, s280_148, s280_151, s280_152, s280_154, s280_156, s280_159, s280_160, s280_163, s280_166, s280_167, s280_168, s280_169, s280_172, s280_173, s280_174, s280_175, s280_178, s280_181, s280_182, s280_185, s280_188, s280_189, s280_192, s280_193, s280_194, s280_197, s280_200, s280_201, s280_204, s280_205, s280_206, s280_209, s280_212, s280_213, s280_216, s280_217, s280_218, s280_221, s280_224, s280_225, s280_228, s280_229, zps_0, zps_1, zps_2, zps_3, zps_9, Option.bind_some, Option.bind_none, Int.reduceEq, Int.reduceNe, Int.reduceLT, Int.reduceLE, Int.reduceNeg, Int.reduceAdd, Int.reduceSub, Int.reduceMul, reduceIte, if_true, if_false, true_and, and_true, false_and, and_false, or_true, true_or, or_false, false_or, not_true_eq_false, not_false_eq_true, ite_not, z_b0, z_b1, z_b01]
  have L2 : ∀ (k : Int) f, 0 ≤ k → k < 20 → ev 280 75 [(2, 100), (0, k)] [] R (W f) = ev 280 75 [(2, 100), (0, k + 1)] [] R (W (zrw (zrw (zrw (zrw f (256 + k) (w 110 k)) (276 + k) (w 111 k)) (296 + k) (w 112 k)) (316 + k) (w 113 k))) := by
    intro k f k0 k1
    have c : ¬ 20 ≤ k := by omega
    have z0 : zw (k + 1) = k + 1 := zw_i (by omega) (by omega)
    have z1 : zw (256 + k) = 256 + k := zw_i (by omega) (by omega)
    have z2 : zw (276 + k) = 276 + k := zw_i (by omega) (by omega)
    have z3 : zw (296 + k) = 296 + k := zw_i (by omega) (by omega)
    have z4 : zw (316 + k) = 316 + k := zw_i (by omega) (by omega)
    have c0 : 0 ≤ 256 + k ∧ 256 + k < 512 := by omega
    have c1 : 0 ≤ 276 + k ∧ 276 + k < 512 := by omega
    have c2 : 0 ≤ 296 + k ∧ 296 + k < 512 := by omega
    have c3 : 0 ≤ 316 + k ∧ 316 + k < 512 := by omega
    rw [s280_75]
    simp only [s280_0, s280_1, s280_3, s280_5, s280_8, s280_9, s280_12, s280_13, s280_14, s280_17, s280_18, s280_19, s280_20, s280_21, s280_24, s280_26, s280_27, s280_28, s280_29, s280_32, s280_33, s280_34, s280_35, s280_36, s280_39, s280_42, s280_43, s280_44, s280_45, s280_48, s280_49, s280_50, s280_51, s280_52, s280_55, s280_58, s280_59, s280_60, s280_61, s280_64, s280_65, s280_66, s280_67, s280_70, s280_73, s280_74, s280_76, s280_78, s280_81, s280_82, s280_85, s280_88, s280_89, s280_90, s280_91, s280_94, s280_95, s280_96, s280_97, s280_98, s280_101, s280_104, s280_105, s280_106, s280_107, s280_110, s280_111, s280_112, s280_113, s280_114, s280_117, s280_120, s280_121, s280_122, s280_123, s280_126, s280_127, s280_128, s280_129, s280_130, s280_133, s280_136, s280_137, s280_138, s280_139, s280_142, s280_143, s280_144, s280_145, s280_148, s280_151, s280_152, s280_154, s280_156, s280_159, s280_160, s280_163, s280_166, s280_167, s280_168, s280_169, s280_172, s280_173, s280_174, s280_175, s280_178, s280_181, s280_182, s280_185, s280_188, s280_189, s280_192, s280_193, s280_194, s280_197, s280_200, s280_201, s280_204, s280_205, s280_206, s280_209, s280_212, s280_213, s280_216, s280_217, s280_218, s280_221, s280_224, s280_225, s280_228, s280_229, zps_0, zps_1, zps_2, zps_3, zps_9, Option.bind_some, Option.bind_none, Int.reduceEq, Int.reduceNe, Int.reduceLT, Int.reduceLE, Int.reduceNeg, Int.reduceAdd, Int.reduceSub, Int.reduceMul, reduceIte, if_true, if_false, true_and, and_true, false_and, and_false, or_true, true_or, or_false, false_or, not_true_eq_false, not_false_eq_true, ite_not, z_b0, z_b1, z_b01, rMK0 hM, rMK1 hM, rMK2 hM, rMK3 hM, rMK4 hM, rMK5 hM, rMK6 hM, rMK7 hM, rMK8 hM, rMK9 hM, rMK10 hM, rMK11 hM, rMK12 hM, rMK13 hM, rMK14 hM, rMK15 hM, rMK16 hM, rMK17 hM, rMK18 hM, rMK19 hM, rMK20 hM, rMK21 hM, rMK22 hM, rMK23 hM, rMK24 hM, rMK25 hM, rMK26 hM, rMK27 hM, rMK28 hM, rMK29 hM, rMK30 hM, rMK31 hM, rMK32 hM, rMK33 hM, rMK34 hM, rMK35 hM, rMK36 hM, rMK37 hM, rMK38 hM, rMK39 hM, rMK40 hM, rMK41 hM, rMK42 hM, rMK43 hM, rMK44 hM, rMK45 hM, rMK46 hM, rMK47 hM, rMK48 hM, rMK49 hM, rMK50 hM, rMK51 hM, kMK0, kMK1, kMK2, kMK3, kMK4, kMK5, kMK6, kMK7, kMK8, kMK9, kMK10, kMK11, kMK12, kMK13, kMK14, kMK15, kMK16, kMK17, kMK18, kMK19, kMK20, kMK21, kMK22, kMK23, kMK24, kMK25, kMK26, kMK27, kMK28, kMK29, kMK30, kMK31, kMK32, kMK33, kMK34, kMK35, kMK36, kMK37, kMK38, kMK39, kMK40, kMK41, kMK42, kMK43, kMK44, kMK45, kMK46, kMK47, kMK48, kMK49, kMK50, kMK51, kMK52, kMK53, kMK54, kMK55, kMK56, kMK57, kMK58, kMK59, kMK60, kMK61, kMK62, kMK63, kMK64, kMK65, kMK66, kMK67, kMK68, kMK69, kMK70, kMK71, kMK72, kMK73, kMK74, kMK75, kMK76, kMK77, kMK78, kMK79, kMK80, kMK81, kMK82, kMK83, kMK84, kMK85, kMK86, kMK87, kMK88, kMK89, kMK90, kMK91, kMK92, kMK93, kMK94, kMK95, kMK96, kMK97, kMK98, kMK99, kMK100, kMK101, kMK102, kMK103, kMK104, c, k0, k1, z0, z1, z2, z3, z4, c0, c1, c2, c3, n6, n7, n8, n9, zup_zpr, e30, p30, and_self, if_true, if_false]
  have L2x : ∀ f, ev 280 75 [(2, 100), (0, 20)] [] R (W f) = ev 280 153 [(2, 100), (0, 0)] [] R (W f) := by
    intro f
    rw [s280_75]
    simp only [s280_0, s280_1, s280_3, s280_5, s280_8, s280_9, s280_12, s280_13, s280_14, s280_17, s280_18, s280_19, s280_20, s280_21, s280_24, s280_26, s280_27, s280_28, s280_29, s280_32, s280_33, s280_34, s280_35, s280_36, s280_39, s280_42, s280_43, s280_44, s280_45, s280_48, s280_49, s280_50, s280_51, s280_52, s280_55, s280_58, s280_59, s280_60, s280_61, s280_64, s280_65, s280_66, s280_67, s280_70, s280_73, s280_74, s280_76, s280_78, s280_81, s280_82, s280_85, s280_88, s280_89, s280_90, s280_91, s280_94, s280_95, s280_96, s280_97, s280_98, s280_101, s280_104, s280_105, s280_106, s280_107, s280_110, s280_111, s280_112, s280_113, s280_114, s280_117, s280_120, s280_121, s280_122, s280_123, s280_126, s280_127, s280_128, s280_129, s280_130, s280_133, s280_136, s280_137, s280_138, s280_139, s280_142, s280_143, s280_144, s280_145, s280_148, s280_151, s280_152, s280_154, s280_156, s280_159, s280_160, s280_163, s280_166, s280_167, s280_168, s280_169, s280_172, s280_173, s280_174, s280_175, s280_178, s280_181, s280_182, s280_185, s280_188, s280_189, s280_192, s280_193, s280_194, s280_197, s280_200, s280_201, s280_204, s280_205, s280_206, s280_209, s280_212, s280_213, s280_216, s280_217, s280_218, s280_221, s280_224, s280_225, s280_228, s280_229, zps_0, zps_1, zps_2, zps_3, zps_9, Option.bind_some, Option.bind_none, Int.reduceEq, Int.reduceNe, Int.reduceLT, Int.reduceLE, Int.reduceNeg, Int.reduceAdd, Int.reduceSub, Int.reduceMul, reduceIte, if_true, if_false, true_and, and_true, false_and, and_false, or_true, true_or, or_false, false_or, not_true_eq_false, not_false_eq_true, ite_not, z_b0, z_b1, z_b01]
  have L3 : ∀ (k : Int) f, 0 ≤ k → k < 84 → ev 280 153 [(2, 100), (0, k)] [] R (W f) = ev 280 153 [(2, 100), (0, k + 1)] [] R (W (zrw f (336 + k) (w 105 k))) := by
    intro k f k0 k1
    have c : ¬ 84 ≤ k := by omega
    have z0 : zw (k + 1) = k + 1 := zw_i (by omega) (by omega)
    have z1 : zw (336 + k) = 336 + k := zw_i (by omega) (by omega)
    have c0 : 0 ≤ 336 + k ∧ 336 + k < 512 := by omega
    rw [s280_153]
    simp only [s280_0, s280_1, s280_3, s280_5, s280_8, s280_9, s280_12, s280_13, s280_14, s280_17, s280_18, s280_19, s280_20, s280_21, s280_24, s280_26, s280_27, s280_28, s280_29, s280_32, s280_33, s280_34, s280_35, s280_36, s280_39, s280_42, s280_43, s280_44, s280_45, s280_48, s280_49, s280_50, s280_51, s280_52, s280_55, s280_58, s280_59, s280_60, s280_61, s280_64, s280_65, s280_66, s280_67, s280_70, s280_73, s280_74, s280_76, s280_78, s280_81, s280_82, s280_85, s280_88, s280_89, s280_90, s280_91, s280_94, s280_95, s280_96, s280_97, s280_98, s280_101, s280_104, s280_105, s280_106, s280_107, s280_110, s280_111, s280_112, s280_113, s280_114, s280_117, s280_120, s280_121, s280_122, s280_123, s280_126, s280_127, s280_128, s280_129, s280_130, s280_133, s280_136, s280_137, s280_138, s280_139, s280_142, s280_143, s280_144, s280_145, s280_148, s280_151, s280_152, s280_154, s280_156, s280_159, s280_160, s280_163, s280_166, s280_167, s280_168, s280_169, s280_172, s280_173, s280_174, s280_175, s280_178, s280_181, s280_182, s280_185, s280_188, s280_189, s280_192, s280_193, s280_194, s280_197, s280_200, s280_201, s280_204, s280_205, s280_206, s280_209, s280_212, s280_213, s280_216, s280_217, s280_218, s280_221, s280_224, s280_225, s280_228, s280_229, zps_0, zps_1, zps_2, zps_3, zps_9, Option.bind_some, Option.bind_none, Int.reduceEq, Int.reduceNe, Int.reduceLT, Int.reduceLE, Int.reduceNeg, Int.reduceAdd, Int.reduceSub, Int.reduceMul, reduceIte, if_true, if_false, true_and, and_true, false_and, and_false, or_true, true_or, or_false, false_or, not_true_eq_false, not_false_eq_true, ite_not, z_b0, z_b1, z_b01, rMK0 hM, rMK1 hM, rMK2 hM, rMK3 hM, rMK4 hM, rMK5 hM, rMK6 hM, rMK7 hM, rMK8 hM, rMK9 hM, rMK10 hM, rMK11 hM, rMK12 hM, rMK13 hM, rMK14 hM, rMK15 hM, rMK16 hM, rMK17 hM, rMK18 hM, rMK19 hM, rMK20 hM, rMK21 hM, rMK22 hM, rMK23 hM, rMK24 hM, rMK25 hM, rMK26 hM, rMK27 hM, rMK28 hM, rMK29 hM, rMK30 hM, rMK31 hM, rMK32 hM, rMK33 hM, rMK34 hM, rMK35 hM, rMK36 hM, rMK37 hM, rMK38 hM, rMK39 hM, rMK40 hM, rMK41 hM, rMK42 hM, rMK43 hM, rMK44 hM, rMK45 hM, rMK46 hM, rMK47 hM, rMK48 hM, rMK49 hM, rMK50 hM, rMK51 hM, kMK0, kMK1, kMK2, kMK3, kMK4, kMK5, kMK6, kMK7, kMK8, kMK9, kMK10, kMK11, kMK12, kMK13, kMK14, kMK15, kMK16, kMK17, kMK18, kMK19, kMK20, kMK21, kMK22, kMK23, kMK24, kMK25, kMK26, kMK27, kMK28, kMK29, kMK30, kMK31, kMK32, kMK33, kMK34, kMK35, kMK36, kMK37, kMK38, kMK39, kMK40, kMK41, kMK42, kMK43, kMK44, kMK45, kMK46, kMK47, kMK48, kMK49, kMK50, kMK51, kMK52, kMK53, kMK54, kMK55, kMK56, kMK57, kMK58, kMK59, kMK60, kMK61, kMK62, kMK63, kMK64, kMK65, kMK66, kMK67, kMK68, kMK69, kMK70, kMK71, kMK72, kMK73, kMK74, kMK75, kMK76, kMK77, kMK78, kMK79, kMK80, kMK81, kMK82, kMK83, kMK84, kMK85, kMK86, kMK87, kMK88, kMK89, kMK90, kMK91, kMK92, kMK93, kMK94, kMK95, kMK96, kMK97, kMK98, kMK99, kMK100, kMK101, kMK102, kMK103, kMK104, c, k0, k1, z0, z1, c0, n5, zup_zpr, e30, p30, and_self, if_true, if_false]
  have L3x : ∀ f, ev 280 153 [(2, 100), (0, 84)] [] R (W f) = some ((9, 0), R, W (zrw (zrw (zrw (zrw f 420 (w 100 8)) 421 (w 100 10)) 422 (w 100 6)) 423 (w 100 7))) := by
    intro f
    rw [s280_153]
    simp only [s280_0, s280_1, s280_3, s280_5, s280_8, s280_9, s280_12, s280_13, s280_14, s280_17, s280_18, s280_19, s280_20, s280_21, s280_24, s280_26, s280_27, s280_28, s280_29, s280_32, s280_33, s280_34, s280_35, s280_36, s280_39, s280_42, s280_43, s280_44, s280_45, s280_48, s280_49, s280_50, s280_51, s280_52, s280_55, s280_58, s280_59, s280_60, s280_61, s280_64, s280_65, s280_66, s280_67, s280_70, s280_73, s280_74, s280_76, s280_78, s280_81, s280_82, s280_85, s280_88, s280_89, s280_90, s280_91, s280_94, s280_95, s280_96, s280_97, s280_98, s280_101, s280_104, s280_105, s280_106, s280_107, s280_110, s280_111, s280_112, s280_113, s280_114, s280_117, s280_120, s280_121, s280_122, s280_123, s280_126, s280_127, s280_128, s280_129, s280_130, s280_133, s280_136, s280_137, s280_138, s280_139, s280_142, s280_143, s280_144, s280_145, s280_148, s280_151, s280_152, s280_154, s280_156, s280_159, s280_160, s280_163, s280_166, s280_167, s280_168, s280_169, s280_172, s280_173, s280_174, s280_175, s280_178, s280_181, s280_182, s280_185, s280_188, s280_189, s280_192, s280_193, s280_194, s280_197, s280_200, s280_201, s280_204, s280_205, s280_206, s280_209, s280_212, s280_213, s280_216, s280_217, s280_218, s280_221, s280_224, s280_225, s280_228, s280_229, zps_0, zps_1, zps_2, zps_3, zps_9, Option.bind_some, Option.bind_none, Int.reduceEq, Int.reduceNe, Int.reduceLT, Int.reduceLE, Int.reduceNeg, Int.reduceAdd, Int.reduceSub, Int.reduceMul, reduceIte, if_true, if_false, true_and, and_true, false_and, and_false, or_true, true_or, or_false, false_or, not_true_eq_false, not_false_eq_true, ite_not, z_b0, z_b1, z_b01, rMK0 hM, rMK1 hM, rMK2 hM, rMK3 hM, rMK4 hM, rMK5 hM, rMK6 hM, rMK7 hM, rMK8 hM, rMK9 hM, rMK10 hM, rMK11 hM, rMK12 hM, rMK13 hM, rMK14 hM, rMK15 hM, rMK16 hM, rMK17 hM, rMK18 hM, rMK19 hM, rMK20 hM, rMK21 hM, rMK22 hM, rMK23 hM, rMK24 hM, rMK25 hM, rMK26 hM, rMK27 hM, rMK28 hM, rMK29 hM, rMK30 hM, rMK31 hM, rMK32 hM, rMK33 hM, rMK34 hM, rMK35 hM, rMK36 hM, rMK37 hM, rMK38 hM, rMK39 hM, rMK40 hM, rMK41 hM, rMK42 hM, rMK43 hM, rMK44 hM, rMK45 hM, rMK46 hM, rMK47 hM, rMK48 hM, rMK49 hM, rMK50 hM, rMK51 hM, kMK0, kMK1, kMK2, kMK3, kMK4, kMK5, kMK6, kMK7, kMK8, kMK9, kMK10, kMK11, kMK12, kMK13, kMK14, kMK15, kMK16, kMK17, kMK18, kMK19, kMK20, kMK21, kMK22, kMK23, kMK24, kMK25, kMK26, kMK27, kMK28, kMK29, kMK30, kMK31, kMK32, kMK33, kMK34, kMK35, kMK36, kMK37, kMK38, kMK39, kMK40, kMK41, kMK42, kMK43, kMK44, kMK45, kMK46, kMK47, kMK48, kMK49, kMK50, kMK51, kMK52, kMK53, kMK54, kMK55, kMK56, kMK57, kMK58, kMK59, kMK60, kMK61, kMK62, kMK63, kMK64, kMK65, kMK66, kMK67, kMK68, kMK69, kMK70, kMK71, kMK72, kMK73, kMK74, kMK75, kMK76, kMK77, kMK78, kMK79, kMK80, kMK81, kMK82, kMK83, kMK84, kMK85, kMK86, kMK87, kMK88, kMK89, kMK90, kMK91, kMK92, kMK93, kMK94, kMK95, kMK96, kMK97, kMK98, kMK99, kMK100, kMK101, kMK102, kMK103, kMK104, n0, zup_zpr, e30, p30]
  have L0 : ev 280 0 [(2, 100), (9, 0)] [] R w = ev 280 2 [(2, 100), (0, 0)] [] R (W (w 130)) := by
    rw [hW, zpr_self]
    simp only [s280_0, s280_1, s280_3, s280_5, s280_8, s280_9, s280_12, s280_13, s280_14, s280_17, s280_18, s280_19, s280_20, s280_21, s280_24, s280_26, s280_27, s280_28, s280_29, s280_32, s280_33, s280_34, s280_35, s280_36, s280_39, s280_42, s280_43, s280_44, s280_45, s280_48, s280_49, s280_50, s280_51, s280_52, s280_55, s280_58, s280_59, s280_60, s280_61, s280_64, s280_65, s280_66, s280_67, s280_70, s280_73, s280_74, s280_76, s280_78, s280_81, s280_82, s280_85, s280_88, s280_89, s280_90, s280_91, s280_94, s280_95, s280_96, s280_97, s280_98, s280_101, s280_104, s280_105, s280_106, s280_107, s280_110, s280_111, s280_112, s280_113, s280_114, s280_117, s280_120, s280_121, s280_122, s280_123, s280_126, s280_127, s280_128, s280_129, s280_130, s280_133, s280_136, s280_137, s280_138, s280_139, s280_142, s280_143, s280_144, s280_145, s280_148, s280_151, s280_152, s280_154, s280_156, s280_159, s280_160, s280_163, s280_166, s280_167, s280_168, s280_169, s280_172, s280_173, s280_174, s280_175, s280_178, s280_181, s280_182, s280_185, s280_188, s280_189, s280_192, s280_193, s280_194, s280_197, s280_200, s280_201, s280_204, s280_205, s280_206, s280_209, s280_212, s280_213, s280_216, s280_217, s280_218, s280_221, s280_224, s280_225, s280_228, s280_229, zps_0, zps_1, zps_2, zps_3, zps_9, Option.bind_some, Option.bind_none, Int.reduceEq, Int.reduceNe, Int.reduceLT, Int.reduceLE, Int.reduceNeg, Int.reduceAdd, Int.reduceSub, Int.reduceMul, reduceIte, if_true, if_false, true_and, and_true, false_and, and_false, or_true, true_or, or_false, false_or, not_true_eq_false, not_false_eq_true, ite_not, z_b0, z_b1, z_b01]
  rw [L0]
  simp only [← hW]
  clear hW n n0 n1 n2 n3 n4 n5 n6 n7 n8 n9 e30 p30 L0
  refine zloop (fun r => ∃ f, r = some ((9, 0), R, W f) ∧ ASF w f) (fun k f => ev 280 2 [(2, 100), (0, k)] [] R (W f)) 64 (fun k f => 0 ≤ k ∧ ∀ p, 0 ≤ p → p < k → f p = w 101 p ∧ f (64 + p) = w 102 p ∧ f (128 + p) = w 103 p ∧ f (192 + p) = w 104 p) ?_ ?_ 0 (w 130) (by omega) ⟨by omega, fun p q0 q1 => by omega⟩
  · intro k f hk ⟨k0, hI⟩ ih
    rw [L1 k f k0 hk]
    refine ih _ ⟨by omega, fun p p0 p1 => ?_⟩
    simp only [zrw_if]
    by_cases e : p = k
    · subst e
      simp (disch := omega) only [if_neg, if_pos, if_true, and_self]
    · simp (disch := omega) only [if_neg]
      exact hI p p0 (by omega)
  · rintro f ⟨-, h1⟩
    rw [L1x]
    clear L1 L1x
    refine zloop (fun r => ∃ f, r = some ((9, 0), R, W f) ∧ ASF w f) (fun k f => ev 280 75 [(2, 100), (0, k)] [] R (W f)) 20 (fun k f => 0 ≤ k ∧ (∀ p, 0 ≤ p → p < 64 → f p = w 101 p ∧ f (64 + p) = w 102 p ∧ f (128 + p) = w 103 p ∧ f (192 + p) = w 104 p) ∧ ∀ s, 0 ≤ s → s < k → f (256 + s) = w 110 s ∧ f (276 + s) = w 111 s ∧ f (296 + s) = w 112 s ∧ f (316 + s) = w 113 s) ?_ ?_ 0 f (by omega) ⟨by omega, h1, fun p q0 q1 => by omega⟩
    · intro k f hk ⟨k0, h1, hI⟩ ih
      rw [L2 k f k0 hk]
      refine ih _ ⟨by omega, fun p p0 p1 => ?_, fun p p0 p1 => ?_⟩
      · simp only [zrw_if]
        simp (disch := omega) only [if_neg]
        exact h1 p p0 p1
      · simp only [zrw_if]
        by_cases e : p = k
        · subst e
          simp (disch := omega) only [if_neg, if_pos, if_true, and_self]
        · simp (disch := omega) only [if_neg]
          exact hI p p0 (by omega)
    · rintro f ⟨-, h1, h2⟩
      rw [L2x]
      clear L2 L2x
      refine zloop (fun r => ∃ f, r = some ((9, 0), R, W f) ∧ ASF w f) (fun k f => ev 280 153 [(2, 100), (0, k)] [] R (W f)) 84 (fun k f => 0 ≤ k ∧ (∀ p, 0 ≤ p → p < 64 → f p = w 101 p ∧ f (64 + p) = w 102 p ∧ f (128 + p) = w 103 p ∧ f (192 + p) = w 104 p) ∧ (∀ s, 0 ≤ s → s < 20 → f (256 + s) = w 110 s ∧ f (276 + s) = w 111 s ∧ f (296 + s) = w 112 s ∧ f (316 + s) = w 113 s) ∧ ∀ q, 0 ≤ q → q < k → f (336 + q) = w 105 q) ?_ ?_ 0 f (by omega) ⟨by omega, h1, h2, fun p q0 q1 => by omega⟩
      · intro k f hk ⟨k0, h1, h2, hI⟩ ih
        rw [L3 k f k0 hk]
        refine ih _ ⟨by omega, fun p p0 p1 => ?_, fun p p0 p1 => ?_, fun p p0 p1 => ?_⟩
        · simp only [zrw_if]
          simp (disch := omega) only [if_neg]
          exact h1 p p0 p1
        · simp only [zrw_if]
          simp (disch := omega) only [if_neg]
          exact h2 p p0 p1
        · simp only [zrw_if]
          by_cases e : p = k
          · subst e
            simp (disch := omega) only [if_pos, if_true]
          · simp (disch := omega) only [if_neg]
            exact hI p p0 (by omega)
      · rintro f ⟨-, h1, h2, h3⟩
        rw [L3x]
        refine ⟨_, rfl, fun p p0 p1 => ?_, fun p p0 p1 => ?_, fun p p0 p1 => ?_, ?_, ?_, ?_, ?_⟩
        · simp only [zrw_if]
          simp (disch := omega) only [if_neg]
          exact h1 p p0 p1
        · simp only [zrw_if]
          simp (disch := omega) only [if_neg]
          exact h2 p p0 p1
        · simp only [zrw_if]
          simp (disch := omega) only [if_neg]
          exact h3 p p0 p1
        all_goals
          simp only [zrw_if]
          simp (disch := omega) only [if_neg, if_pos, if_true]
/-- what bringing back leaves -/
def BBK (w g : zM) : Prop := (∀ b, b ≠ 100 → b < 101 ∨ (105 < b ∧ b < 110) ∨ 113 < b → g b = w b) ∧ (∀ k, k ≠ 6 → k ≠ 7 → k ≠ 8 → k ≠ 10 → g 100 k = w 100 k) ∧ ASF g (w 130)
theorem tz_bringBack (hM : MK R) : ∃ g : zM, ev 282 0 [(2, 100), (9, 0)] [] R w = some ((9, 0), R, g) ∧ BBK w g := by
  obtain ⟨f, hf⟩ : ∃ f, w 130 = f := ⟨_, rfl⟩
  obtain ⟨V, hV⟩ : ∃ V : (Int → Int) → (Int → Int) → (Int → Int) → (Int → Int) → zM, ∀ a b c d, V a b c d = zpr (zpr (zpr (zpr w 101 a) 102 b) 103 c) 104 d := ⟨_, fun _ _ _ _ => rfl⟩
  have v1 : ∀ a b c d, V a b c d 101 = a := fun a b c d => by rw [hV]; simp (disch := decide) only [zpr_ne, zpr_at]
  have v2 : ∀ a b c d, V a b c d 102 = b := fun a b c d => by rw [hV]; simp (disch := decide) only [zpr_ne, zpr_at]
  have v3 : ∀ a b c d, V a b c d 103 = c := fun a b c d => by rw [hV]; simp (disch := decide) only [zpr_ne, zpr_at]
  have v4 : ∀ a b c d, V a b c d 104 = d := fun a b c d => by rw [hV, zpr_at]
  have vn : ∀ a b c d x, x ≠ 101 → x ≠ 102 → x ≠ 103 → x ≠ 104 → V a b c d x = w x := fun a b c d x h1 h2 h3 h4 => by rw [hV, zpr_ne h4, zpr_ne h3, zpr_ne h2, zpr_ne h1]
  have u1 : ∀ a b c d x, zpr (V a b c d) 101 x = V x b c d := by
    intro a b c d x
    funext q
    by_cases q1 : q = 101
    · subst q1; rw [zpr_at, v1]
    · rw [zpr_ne q1, hV, hV]
      by_cases q4 : q = 104
      · subst q4; rw [zpr_at, zpr_at]
      · rw [zpr_ne q4, zpr_ne q4]
        by_cases q3 : q = 103
        · subst q3; rw [zpr_at, zpr_at]
        · rw [zpr_ne q3, zpr_ne q3]
          by_cases q2 : q = 102
          · subst q2; rw [zpr_at, zpr_at]
          · rw [zpr_ne q2, zpr_ne q2, zpr_ne q1, zpr_ne q1]
  have u2 : ∀ a b c d x, zpr (V a b c d) 102 x = V a x c d := by
    intro a b c d x
    funext q
    by_cases q2 : q = 102
    · subst q2; rw [zpr_at, v2]
    · rw [zpr_ne q2, hV, hV]
      by_cases q4 : q = 104
      · subst q4; rw [zpr_at, zpr_at]
      · rw [zpr_ne q4, zpr_ne q4]
        by_cases q3 : q = 103
        · subst q3; rw [zpr_at, zpr_at]
        · rw [zpr_ne q3, zpr_ne q3, zpr_ne q2, zpr_ne q2]
  have u3 : ∀ a b c d x, zpr (V a b c d) 103 x = V a b x d := by
    intro a b c d x
    funext q
    by_cases q3 : q = 103
    · subst q3; rw [zpr_at, v3]
    · rw [zpr_ne q3, hV, hV]
      by_cases q4 : q = 104
      · subst q4; rw [zpr_at, zpr_at]
      · rw [zpr_ne q4, zpr_ne q4, zpr_ne q3, zpr_ne q3]
  have u4 : ∀ a b c d x, zpr (V a b c d) 104 x = V a b c x := fun a b c d x => by rw [hV, hV, zpr_zpr]
  have vf : ∀ a b c d, V a b c d 130 = f := fun a b c d => by rw [vn _ _ _ _ _ (by decide) (by decide) (by decide) (by decide), hf]
  have L1 : ∀ (k : Int) a b c d, 0 ≤ k → k < 64 → ev 282 2 [(2, 100), (0, k)] [] R (V a b c d) = ev 282 2 [(2, 100), (0, k + 1)] [] R (V (zrw a k (f k)) (zrw b k (f (64 + k))) (zrw c k (f (128 + k))) (zrw d k (f (192 + k)))) := by
    intro k a b c d k0 k1
    have cc : ¬ 64 ≤ k := by omega
    have z0 : zw (k + 1) = k + 1 := zw_i (by omega) (by omega)
    have z1 : zw (64 + k) = 64 + k := zw_i (by omega) (by omega)
    have z2 : zw (128 + k) = 128 + k := zw_i (by omega) (by omega)
    have z3 : zw (192 + k) = 192 + k := zw_i (by omega) (by omega)
    have c0 : 0 ≤ k ∧ k < 512 := by omega
    have c1 : 0 ≤ 64 + k ∧ 64 + k < 512 := by omega
    have c2 : 0 ≤ 128 + k ∧ 128 + k < 512 := by omega
    have c3 : 0 ≤ 192 + k ∧ 192 + k < 512 := by omega
    rw [s282_2]
    simp only [s282_0, s282_1, s282_3, s282_5, s282_8, s282_9, s282_12, s282_13, s282_14, s282_17, s282_18, s282_19, s282_20, s282_21, s282_24, s282_25, s282_26, s282_29, s282_31, s282_32, s282_33, s282_34, s282_35, s282_36, s282_39, s282_40, s282_41, s282_44, s282_47, s282_48, s282_49, s282_50, s282_51, s282_52, s282_55, s282_56, s282_57, s282_60, s282_63, s282_64, s282_65, s282_66, s282_67, s282_70, s282_73, s282_74, s282_76, s282_78, s282_81, s282_82, s282_85, s282_86, s282_87, s282_90, s282_93, s282_94, s282_95, s282_96, s282_97, s282_98, s282_101, s282_102, s282_103, s282_106, s282_109, s282_110, s282_111, s282_112, s282_113, s282_114, s282_117, s282_118, s282_119, s282_122, s282_125, s282_126, s282_127, s282_128, s282_129, s282_130, s282_133, s282_134, s282_135, s282_138, s282_141, s282_142, s282_143, s282_144, s282_145, s282_148, s282_151, s282_152, s282_154, s282_156, s282_159, s282_160, s282_163, s282_164, s282_165, s282_168, s282_171, s282_172, s282_173, s282_174, s282_175, s282_178, s282_181, s282_182, s282_183, s282_186, s282_189, s282_190, s282_193, s282_194, s282_195, s282_198, s282_201, s282_202, s282_205, s282_206, s282_207, s282_210, s282_213, s282_214, s282_217, s282_218, s282_219, s282_222, s282_225, s282_226, s282_229, zps_0, zps_1, zps_2, zps_3, zps_9, Option.bind_some, Option.bind_none, Int.reduceEq, Int.reduceNe, Int.reduceLT, Int.reduceLE, Int.reduceNeg, Int.reduceAdd, Int.reduceSub, Int.reduceMul, reduceIte, if_true, if_false, true_and, and_true, false_and, and_false, or_true, true_or, or_false, false_or, not_true_eq_false, not_false_eq_true, ite_not, z_b0, z_b1, z_b01, rMK0 hM, rMK1 hM, rMK2 hM, rMK3 hM, rMK4 hM, rMK5 hM, rMK6 hM, rMK7 hM, rMK8 hM, rMK9 hM, rMK10 hM, rMK11 hM, rMK12 hM, rMK13 hM, rMK14 hM, rMK15 hM, rMK16 hM, rMK17 hM, rMK18 hM, rMK19 hM, rMK20 hM, rMK21 hM, rMK22 hM, rMK23 hM, rMK24 hM, rMK25 hM, rMK26 hM, rMK27 hM, rMK28 hM, rMK29 hM, rMK30 hM, rMK31 hM, rMK32 hM, rMK33 hM, rMK34 hM, rMK35 hM, rMK36 hM, rMK37 hM, rMK38 hM, rMK39 hM, rMK40 hM, rMK41 hM, rMK42 hM, rMK43 hM, rMK44 hM, rMK45 hM, rMK46 hM, rMK47 hM, rMK48 hM, rMK49 hM, rMK50 hM, rMK51 hM, kMK0, kMK1, kMK2, kMK3, kMK4, kMK5, kMK6, kMK7, kMK8, kMK9, kMK10, kMK11, kMK12, kMK13, kMK14, kMK15, kMK16, kMK17, kMK18, kMK19, kMK20, kMK21, kMK22, kMK23, kMK24, kMK25, kMK26, kMK27, kMK28, kMK29, kMK30, kMK31, kMK32, kMK33, kMK34, kMK35, kMK36, kMK37, kMK38, kMK39, kMK40, kMK41, kMK42, kMK43, kMK44, kMK45, kMK46, kMK47, kMK48, kMK49, kMK50, kMK51, kMK52, kMK53, kMK54, kMK55, kMK56, kMK57, kMK58, kMK59, kMK60, kMK61, kMK62, kMK63, kMK64, kMK65, kMK66, kMK67, kMK68, kMK69, kMK70, kMK71, kMK72, kMK73, kMK74, kMK75, kMK76, kMK77, kMK78, kMK79, kMK80, kMK81, kMK82, kMK83, kMK84, kMK85, kMK86, kMK87, kMK88, kMK89, kMK90, kMK91, kMK92, kMK93, kMK94, kMK95, kMK96, kMK97, kMK98, kMK99, kMK100, kMK101, kMK102, kMK103, kMK104, cc, k0, k1, z0, z1, z2, z3, c0, c1, c2, c3, vf, zup_zpr, v1, v2, v3, v4, u1, u2, u3, u4, and_self, if_true, if_false]
  have L1x : ∀ a b c d, ev 282 2 [(2, 100), (0, 64)] [] R (V a b c d) = ev 282 75 [(2, 100), (0, 0)] [] R (V a b c d) := by
    intro a b c d
    rw [s282_2]
    simp only [s282_0, s282_1, s282_3, s282_5, s282_8, s282_9, s282_12, s282_13, s282_14, s282_17, s282_18, s282_19, s282_20, s282_21, s282_24, s282_25, s282_26, s282_29, s282_31, s282_32, s282_33, s282_34, s282_35, s282_36, s282_39, s282_40, s282_41, s282_44, s282_47, s282_48, s282_49, s282_50, s282_51, s282_52, s282_55, s282_56, s282_57, s282_60, s282_63, s282_64, s282_65, s282_66, s282_67, s282_70, s282_73, s282_74, s282_76, s282_78, s282_81, s282_82, s282_85, s282_86, s282_87, s282_90, s282_93, s282_94, s282_95, s282_96, s282_97, s282_98, s282_101, s282_102, s282_103, s282_106, s282_109, s282_110, s282_111, s282_112, s282_113, s282_114, s282_117, s282_118, s282_119, s282_122, s282_125, s282_126, s282_127, s282_128, s282_129, s282_130, s282_133, s282_134, s282_135, s282_138, s282_141, s282_142, s282_143, s282_144, s282_145, s282_148, s282_151, s282_152, s282_154, s282_156, s282_159, s282_160, s282_163, s282_164, s282_165, s282_168, s282_171, s282_172, s282_173, s282_174, s282_175, s282_178, s282_181, s282_182, s282_183, s282_186, s282_189, s282_190, s282_193, s282_194, s282_195, s282_198, s282_201, s282_202, s282_205, s282_206, s282_207, s282_210, s282_213, s282_214, s282_217, s282_218, s282_219, s282_222, s282_225, s282_226, s282_229, zps_0, zps_1, zps_2, zps_3, zps_9, Option.bind_some, Option.bind_none, Int.reduceEq, Int.reduceNe, Int.reduceLT, Int.reduceLE, Int.reduceNeg, Int.reduceAdd, Int.reduceSub, Int.reduceMul, reduceIte, if_true, if_false, true_and, and_true, false_and, and_false, or_true, true_or, or_false, false_or, not_true_eq_false, not_false_eq_true, ite_not, z_b0, z_b1, z_b01]
  have key : ∀ W0 : zM, (∀ b, b < 101 ∨ 104 < b → W0 b = w b) → (∀ p, 0 ≤ p → p < 64 → f p = W0 101 p ∧ f (64 + p) = W0 102 p ∧ f (128 + p) = W0 103 p ∧ f (192 + p) = W0 104 p) → ∃ g : zM, ev 282 75 [(2, 100), (0, 0)] [] R W0 = some ((9, 0), R, g) ∧ BBK w g := by
    clear L1 L1x u1 u2 u3 u4 v1 v2 v3 v4 vn vf hV V
    intro W0 hw hp
    have hf0 : W0 130 = f := by rw [hw 130 (by omega), hf]
    obtain ⟨V, hV⟩ : ∃ V : (Int → Int) → (Int → Int) → (Int → Int) → (Int → Int) → zM, ∀ a b c d, V a b c d = zpr (zpr (zpr (zpr W0 110 a) 111 b) 112 c) 113 d := ⟨_, fun _ _ _ _ => rfl⟩
    have v1 : ∀ a b c d, V a b c d 110 = a := fun a b c d => by rw [hV]; simp (disch := decide) only [zpr_ne, zpr_at]
    have v2 : ∀ a b c d, V a b c d 111 = b := fun a b c d => by rw [hV]; simp (disch := decide) only [zpr_ne, zpr_at]
    have v3 : ∀ a b c d, V a b c d 112 = c := fun a b c d => by rw [hV]; simp (disch := decide) only [zpr_ne, zpr_at]
    have v4 : ∀ a b c d, V a b c d 113 = d := fun a b c d => by rw [hV, zpr_at]
    have vn : ∀ a b c d x, x ≠ 110 → x ≠ 111 → x ≠ 112 → x ≠ 113 → V a b c d x = W0 x := fun a b c d x h1 h2 h3 h4 => by rw [hV, zpr_ne h4, zpr_ne h3, zpr_ne h2, zpr_ne h1]
    have u1 : ∀ a b c d x, zpr (V a b c d) 110 x = V x b c d := by
      intro a b c d x
      funext q
      by_cases q1 : q = 110
      · subst q1; rw [zpr_at, v1]
      · rw [zpr_ne q1, hV, hV]
        by_cases q4 : q = 113
        · subst q4; rw [zpr_at, zpr_at]
        · rw [zpr_ne q4, zpr_ne q4]
          by_cases q3 : q = 112
          · subst q3; rw [zpr_at, zpr_at]
          · rw [zpr_ne q3, zpr_ne q3]
            by_cases q2 : q = 111
            · subst q2; rw [zpr_at, zpr_at]
            · rw [zpr_ne q2, zpr_ne q2, zpr_ne q1, zpr_ne q1]
    have u2 : ∀ a b c d x, zpr (V a b c d) 111 x = V a x c d := by
      intro a b c d x
      funext q
      by_cases q2 : q = 111
      · subst q2; rw [zpr_at, v2]
      · rw [zpr_ne q2, hV, hV]
        by_cases q4 : q = 113
        · subst q4; rw [zpr_at, zpr_at]
        · rw [zpr_ne q4, zpr_ne q4]
          by_cases q3 : q = 112
          · subst q3; rw [zpr_at, zpr_at]
          · rw [zpr_ne q3, zpr_ne q3, zpr_ne q2, zpr_ne q2]
    have u3 : ∀ a b c d x, zpr (V a b c d) 112 x = V a b x d := by
      intro a b c d x
      funext q
      by_cases q3 : q = 112
      · subst q3; rw [zpr_at, v3]
      · rw [zpr_ne q3, hV, hV]
        by_cases q4 : q = 113
        · subst q4; rw [zpr_at, zpr_at]
        · rw [zpr_ne q4, zpr_ne q4, zpr_ne q3, zpr_ne q3]
    have u4 : ∀ a b c d x, zpr (V a b c d) 113 x = V a b c x := fun a b c d x => by rw [hV, hV, zpr_zpr]
    have vf : ∀ a b c d, V a b c d 130 = f := fun a b c d => by rw [vn _ _ _ _ _ (by decide) (by decide) (by decide) (by decide), hf0]
    have L2 : ∀ (k : Int) a b c d, 0 ≤ k → k < 20 → ev 282 75 [(2, 100), (0, k)] [] R (V a b c d) = ev 282 75 [(2, 100), (0, k + 1)] [] R (V (zrw a k (f (256 + k))) (zrw b k (f (276 + k))) (zrw c k (f (296 + k))) (zrw d k (f (316 + k)))) := by
      intro k a b c d k0 k1
      have cc : ¬ 20 ≤ k := by omega
      have z0 : zw (k + 1) = k + 1 := zw_i (by omega) (by omega)
      have z1 : zw (256 + k) = 256 + k := zw_i (by omega) (by omega)
      have z2 : zw (276 + k) = 276 + k := zw_i (by omega) (by omega)
      have z3 : zw (296 + k) = 296 + k := zw_i (by omega) (by omega)
      have z4 : zw (316 + k) = 316 + k := zw_i (by omega) (by omega)
      have c0 : 0 ≤ 256 + k ∧ 256 + k < 512 := by omega
      have c1 : 0 ≤ 276 + k ∧ 276 + k < 512 := by omega
      have c2 : 0 ≤ 296 + k ∧ 296 + k < 512 := by omega
      have c3 : 0 ≤ 316 + k ∧ 316 + k < 512 := by omega
      rw [s282_75]
      simp only [s282_0, s282_1, s282_3, s282_5, s282_8, s282_9, s282_12, s282_13, s282_14, s282_17, s282_18, s282_19, s282_20, s282_21, s282_24, s282_25, s282_26, s282_29, s282_31, s282_32, s282_33, s282_34, s282_35, s282_36, s282_39, s282_40, s282_41, s282_44, s282_47, s282_48, s282_49, s282_50, s282_51, s282_52, s282_55, s282_56, s282_57, s282_60, s282_63, s282_64, s282_65, s282_66, s282_67, s282_70, s282_73, s282_74, s282_76, s282_78, s282_81, s282_82, s282_85, s282_86, s282_87, s282_90, s282_93, s282_94, s282_95, s282_96, s282_97, s282_98, s282_101, s282_102, s282_103, s282_106, s282_109, s282_110, s282_111, s282_112, s282_113, s282_114, s282_117, s282_118, s282_119, s282_122, s282_125, s282_126, s282_127, s282_128, s282_129, s282_130, s282_133, s282_134, s282_135, s282_138, s282_141, s282_142, s282_143, s282_144, s282_145, s282_148, s282_151, s282_152, s282_154, s282_156, s282_159, s282_160, s282_163, s282_164, s282_165, s282_168, s282_171, s282_172, s282_173, s282_174, s282_175, s282_178, s282_181, s282_182, s282_183, s282_186, s282_189, s282_190, s282_193, s282_194, s282_195, s282_198, s282_201, s282_202, s282_205, s282_206, s282_207, s282_210, s282_213, s282_214, s282_217, s282_218, s282_219, s282_222, s282_225, s282_226, s282_229, zps_0, zps_1, zps_2, zps_3, zps_9, Option.bind_some, Option.bind_none, Int.reduceEq, Int.reduceNe, Int.reduceLT, Int.reduceLE, Int.reduceNeg, Int.reduceAdd, Int.reduceSub, Int.reduceMul, reduceIte, if_true, if_false, true_and, and_true, false_and, and_false, or_true, true_or, or_false, false_or, not_true_eq_false, not_false_eq_true, ite_not, z_b0, z_b1, z_b01, rMK0 hM, rMK1 hM, rMK2 hM, rMK3 hM, rMK4 hM, rMK5 hM, rMK6 hM, rMK7 hM, rMK8 hM, rMK9 hM, rMK10 hM, rMK11 hM, rMK12 hM, rMK13 hM, rMK14 hM, rMK15 hM, rMK16 hM, rMK17 hM, rMK18 hM, rMK19 hM, rMK20 hM, rMK21 hM, rMK22 hM, rMK23 hM, rMK24 hM, rMK25 hM, rMK26 hM, rMK27 hM, rMK28 hM, rMK29 hM, rMK30 hM, rMK31 hM, rMK32 hM, rMK33 hM, rMK34 hM, rMK35 hM, rMK36 hM, rMK37 hM, rMK38 hM, rMK39 hM, rMK40 hM, rMK41 hM, rMK42 hM, rMK43 hM, rMK44 hM, rMK45 hM, rMK46 hM, rMK47 hM, rMK48 hM, rMK49 hM, rMK50 hM, rMK51 hM, kMK0, kMK1, kMK2, kMK3, kMK4, kMK5, kMK6, kMK7, kMK8, kMK9, kMK10, kMK11, kMK12, kMK13, kMK14, kMK15, kMK16, kMK17, kMK18, kMK19, kMK20, kMK21, kMK22, kMK23, kMK24, kMK25, kMK26, kMK27, kMK28, kMK29, kMK30, kMK31, kMK32, kMK33, kMK34, kMK35, kMK36, kMK37, kMK38, kMK39, kMK40, kMK41, kMK42, kMK43, kMK44, kMK45, kMK46, kMK47, kMK48, kMK49, kMK50, kMK51, kMK52, kMK53, kMK54, kMK55, kMK56, kMK57, kMK58, kMK59, kMK60, kMK61, kMK62, kMK63, kMK64, kMK65, kMK66, kMK67, kMK68, kMK69, kMK70, kMK71, kMK72, kMK73, kMK74, kMK75, kMK76, kMK77, kMK78, kMK79, kMK80, kMK81, kMK82, kMK83, kMK84, kMK85, kMK86, kMK87, kMK88, kMK89, kMK90, kMK91, kMK92, kMK93, kMK94, kMK95, kMK96, kMK97, kMK98, kMK99, kMK100, kMK101, kMK102, kMK103, kMK104, cc, k0, k1, z0, z1, z2, z3, z4, c0, c1, c2, c3, vf, zup_zpr, v1, v2, v3, v4, u1, u2, u3, u4, and_self, if_true, if_false]
    have L2x : ∀ a b c d, ev 282 75 [(2, 100), (0, 20)] [] R (V a b c d) = ev 282 153 [(2, 100), (0, 0)] [] R (V a b c d) := by
      intro a b c d
      rw [s282_75]
      simp only [s282_0, s282_1, s282_3, s282_5, s282_8, s282_9, s282_12, s282_13, s282_14, s282_17, s282_18, s282_19, s282_20, s282_21, s282_24, s282_25, s282_26, s282_29, s282_31, s282_32, s282_33, s282_34, s282_35, s282_36, s282_39, s282_40, s282_41, s282_44, s282_47, s282_48, s282_49, s282_50, s282_51, s282_52, s282_55, s282_56, s282_57, s282_60, s282_63, s282_64, s282_65, s282_66, s282_67, s282_70, s282_73, s282_74, s282_76, s282_78, s282_81, s282_82, s282_85, s282_86, s282_87, s282_90, s282_93, s282_94, s282_95, s282_96, s282_97, s282_98, s282_101, s282_102, s282_103, s282_106, s282_109, s282_110, s282_111, s282_112, s282_113, s282_114, s282_117, s282_118, s282_119, s282_122, s282_125, s282_126, s282_127, s282_128, s282_129, s282_130, s282_133, s282_134, s282_135, s282_138, s282_141, s282_142, s282_143, s282_144, s282_145, s282_148, s282_151, s282_152, s282_154, s282_156, s282_159, s282_160, s282_163, s282_164, s282_165, s282_168, s282_171, s282_172, s282_173, s282_174, s282_175, s282_178, s282_181, s282_182, s282_183, s282_186, s282_189, s282_190, s282_193, s282_194, s282_195, s282_198, s282_201, s282_202, s282_205, s282_206, s282_207, s282_210, s282_213, s282_214, s282_217, s282_218, s282_219, s282_222, s282_225, s282_226, s282_229, zps_0, zps_1, zps_2, zps_3, zps_9, Option.bind_some, Option.bind_none, Int.reduceEq, Int.reduceNe, Int.reduceLT, Int.reduceLE, Int.reduceNeg, Int.reduceAdd, Int.reduceSub, Int.reduceMul, reduceIte, if_true, if_false, true_and, and_true, false_and, and_false, or_true, true_or, or_false, false_or, not_true_eq_false, not_false_eq_true, ite_not, z_b0, z_b1, z_b01]
    have v0 : W0 = V (W0 110) (W0 111) (W0 112) (W0 113) := by
      rw [hV]
      funext q
      by_cases q4 : q = 113
      · subst q4; rw [zpr_at]
      · rw [zpr_ne q4]
        by_cases q3 : q = 112
        · subst q3; rw [zpr_at]
        · rw [zpr_ne q3]
          by_cases q2 : q = 111
          · subst q2; rw [zpr_at]
          · rw [zpr_ne q2]
            by_cases q1 : q = 110
            · subst q1; rw [zpr_at]
            · rw [zpr_ne q1]
    have key2 : ∀ W1 : zM, (∀ b, b < 110 ∨ 113 < b → W1 b = W0 b) → (∀ s, 0 ≤ s → s < 20 → f (256 + s) = W1 110 s ∧ f (276 + s) = W1 111 s ∧ f (296 + s) = W1 112 s ∧ f (316 + s) = W1 113 s) → ∃ g : zM, ev 282 153 [(2, 100), (0, 0)] [] R W1 = some ((9, 0), R, g) ∧ BBK w g := by
      clear L2 L2x v0 u1 u2 u3 u4 v1 v2 v3 v4 vn vf hV V
      intro W1 hw1 hs
      have hf1 : W1 130 = f := by rw [hw1 130 (by omega), hf0]
      have n30 : ∀ x, zpr W1 105 x 130 = f := fun x => by rw [zpr_ne (by decide), hf1]
      have n00 : ∀ x, zpr W1 105 x 100 = W1 100 := fun x => zpr_ne (by decide)
      have L3 : ∀ (k : Int) a, 0 ≤ k → k < 84 → ev 282 153 [(2, 100), (0, k)] [] R (zpr W1 105 a) = ev 282 153 [(2, 100), (0, k + 1)] [] R (zpr W1 105 (zrw a k (f (336 + k)))) := by
        intro k a k0 k1
        have cc : ¬ 84 ≤ k := by omega
        have z0 : zw (k + 1) = k + 1 := zw_i (by omega) (by omega)
        have z1 : zw (336 + k) = 336 + k := zw_i (by omega) (by omega)
        have c0 : 0 ≤ 336 + k ∧ 336 + k < 512 := by omega
        rw [s282_153]
        simp only [s282_0, s282_1, s282_3, s282_5, s282_8, s282_9, s282_12, s282_13, s282_14, s282_17, s282_18, s282_19, s282_20, s282_21, s282_24, s282_25, s282_26, s282_29, s282_31, s282_32, s282_33, s282_34, s282_35, s282_36, s282_39, s282_40, s282_41, s282_44, s282_47, s282_48, s282_49, s282_50, s282_51, s282_52, s282_55, s282_56, s282_57, s282_60, s282_63, s282_64, s282_65, s282_66, s282_67, s282_70, s282_73, s282_74, s282_76, s282_78, s282_81, s282_82, s282_85, s282_86, s282_87, s282_90, s282_93, s282_94, s282_95, s282_96, s282_97, s282_98, s282_101, s282_102, s282_103, s282_106, s282_109, s282_110, s282_111, s282_112, s282_113, s282_114, s282_117, s282_118, s282_119, s282_122, s282_125, s282_126, s282_127, s282_128, s282_129, s282_130, s282_133, s282_134, s282_135, s282_138, s282_141, s282_142, s282_143, s282_144, s282_145, s282_148, s282_151, s282_152, s282_154, s282_156, s282_159, s282_160, s282_163, s282_164, s282_165, s282_168, s282_171, s282_172, s282_173, s282_174, s282_175, s282_178, s282_181, s282_182, s282_183, s282_186, s282_189, s282_190, s282_193, s282_194, s282_195, s282_198, s282_201, s282_202, s282_205, s282_206, s282_207, s282_210, s282_213, s282_214, s282_217, s282_218, s282_219, s282_222, s282_225, s282_226, s282_229, zps_0, zps_1, zps_2, zps_3, zps_9, Option.bind_some, Option.bind_none, Int.reduceEq, Int.reduceNe, Int.reduceLT, Int.reduceLE, Int.reduceNeg, Int.reduceAdd, Int.reduceSub, Int.reduceMul, reduceIte, if_true, if_false, true_and, and_true, false_and, and_false, or_true, true_or, or_false, false_or, not_true_eq_false, not_false_eq_true, ite_not, z_b0, z_b1, z_b01, rMK0 hM, rMK1 hM, rMK2 hM, rMK3 hM, rMK4 hM, rMK5 hM, rMK6 hM, rMK7 hM, rMK8 hM, rMK9 hM, rMK10 hM, rMK11 hM, rMK12 hM, rMK13 hM, rMK14 hM, rMK15 hM, rMK16 hM, rMK17 hM, rMK18 hM, rMK19 hM, rMK20 hM, rMK21 hM, rMK22 hM, rMK23 hM, rMK24 hM, rMK25 hM, rMK26 hM, rMK27 hM, rMK28 hM, rMK29 hM, rMK30 hM, rMK31 hM, rMK32 hM, rMK33 hM, rMK34 hM, rMK35 hM, rMK36 hM, rMK37 hM, rMK38 hM, rMK39 hM, rMK40 hM, rMK41 hM, rMK42 hM, rMK43 hM, rMK44 hM, rMK45 hM, rMK46 hM, rMK47 hM, rMK48 hM, rMK49 hM, rMK50 hM, rMK51 hM, kMK0, kMK1, kMK2, kMK3, kMK4, kMK5, kMK6, kMK7, kMK8, kMK9, kMK10, kMK11, kMK12, kMK13, kMK14, kMK15, kMK16, kMK17, kMK18, kMK19, kMK20, kMK21, kMK22, kMK23, kMK24, kMK25, kMK26, kMK27, kMK28, kMK29, kMK30, kMK31, kMK32, kMK33, kMK34, kMK35, kMK36, kMK37, kMK38, kMK39, kMK40, kMK41, kMK42, kMK43, kMK44, kMK45, kMK46, kMK47, kMK48, kMK49, kMK50, kMK51, kMK52, kMK53, kMK54, kMK55, kMK56, kMK57, kMK58, kMK59, kMK60, kMK61, kMK62, kMK63, kMK64, kMK65, kMK66, kMK67, kMK68, kMK69, kMK70, kMK71, kMK72, kMK73, kMK74, kMK75, kMK76, kMK77, kMK78, kMK79, kMK80, kMK81, kMK82, kMK83, kMK84, kMK85, kMK86, kMK87, kMK88, kMK89, kMK90, kMK91, kMK92, kMK93, kMK94, kMK95, kMK96, kMK97, kMK98, kMK99, kMK100, kMK101, kMK102, kMK103, kMK104, cc, k0, k1, z0, z1, c0, n30, zup_zpr, zpr_at, zpr_zpr, and_self, if_true, if_false]
      have L3x : ∀ a, ev 282 153 [(2, 100), (0, 84)] [] R (zpr W1 105 a) = some ((9, 0), R, zpr (zpr W1 105 a) 100 (zrw (zrw (zrw (zrw (W1 100) 8 (f 420)) 10 (f 421)) 6 (f 422)) 7 (f 423))) := by
        intro a
        have m30 : ∀ y, zpr (zpr W1 105 a) 100 y 130 = f := fun y => by rw [zpr_ne (by decide), n30]
        rw [s282_153]
        simp only [s282_0, s282_1, s282_3, s282_5, s282_8, s282_9, s282_12, s282_13, s282_14, s282_17, s282_18, s282_19, s282_20, s282_21, s282_24, s282_25, s282_26, s282_29, s282_31, s282_32, s282_33, s282_34, s282_35, s282_36, s282_39, s282_40, s282_41, s282_44, s282_47, s282_48, s282_49, s282_50, s282_51, s282_52, s282_55, s282_56, s282_57, s282_60, s282_63, s282_64, s282_65, s282_66, s282_67, s282_70, s282_73, s282_74, s282_76, s282_78, s282_81, s282_82, s282_85, s282_86, s282_87, s282_90, s282_93, s282_94, s282_95, s282_96, s282_97, s282_98, s282_101, s282_102, s282_103, s282_106, s282_109, s282_110, s282_111, s282_112, s282_113, s282_114, s282_117, s282_118, s282_119, s282_122, s282_125, s282_126, s282_127, s282_128, s282_129, s282_130, s282_133, s282_134, s282_135, s282_138, s282_141, s282_142, s282_143, s282_144, s282_145, s282_148, s282_151, s282_152, s282_154, s282_156, s282_159, s282_160, s282_163, s282_164, s282_165, s282_168, s282_171, s282_172, s282_173, s282_174, s282_175, s282_178, s282_181, s282_182, s282_183, s282_186, s282_189, s282_190, s282_193, s282_194, s282_195, s282_198, s282_201, s282_202, s282_205, s282_206, s282_207, s282_210, s282_213, s282_214, s282_217, s282_218, s282_219, s282_222, s282_225, s282_226, s282_229, zps_0, zps_1, zps_2, zps_3, zps_9, Option.bind_some, Option.bind_none, Int.reduceEq, Int.reduceNe, Int.reduceLT, Int.reduceLE, Int.reduceNeg, Int.reduceAdd, Int.reduceSub, Int.reduceMul, reduceIte, if_true, if_false, true_and, and_true, false_and, and_false, or_true, true_or, or_false, false_or, not_true_eq_false, not_false_eq_true, ite_not, z_b0, z_b1, z_b01, rMK0 hM, rMK1 hM, rMK2 hM, rMK3 hM, rMK4 hM, rMK5 hM, rMK6 hM, rMK7 hM, rMK8 hM, rMK9 hM, rMK10 hM, rMK11 hM, rMK12 hM, rMK13 hM, rMK14 hM, rMK15 hM, rMK16 hM, rMK17 hM, rMK18 hM, rMK19 hM, rMK20 hM, rMK21 hM, rMK22 hM, rMK23 hM, rMK24 hM, rMK25 hM, rMK26 hM, rMK27 hM, rMK28 hM, rMK29 hM, rMK30 hM, rMK31 hM, rMK32 hM, rMK33 hM, rMK34 hM, rMK35 hM, rMK36 hM, rMK37 hM, rMK38 hM, rMK39 hM, rMK40 hM, rMK41 hM, rMK42 hM, rMK43 hM, rMK44 hM, rMK45 hM, rMK46 hM, rMK47 hM, rMK48 hM, rMK49 hM, rMK50 hM, rMK51 hM, kMK0, kMK1, kMK2, kMK3, kMK4, kMK5, kMK6, kMK7, kMK8, kMK9, kMK10, kMK11, kMK12, kMK13, kMK14, kMK15, kMK16, kMK17, kMK18, kMK19, kMK20, kMK21, kMK22, kMK23, kMK24, kMK25, kMK26, kMK27, kMK28, kMK29, kMK30, kMK31, kMK32, kMK33, kMK34, kMK35, kMK36, kMK37, kMK38, kMK39, kMK40, kMK41, kMK42, kMK43, kMK44, kMK45, kMK46, kMK47, kMK48, kMK49, kMK50, kMK51, kMK52, kMK53, kMK54, kMK55, kMK56, kMK57, kMK58, kMK59, kMK60, kMK61, kMK62, kMK63, kMK64, kMK65, kMK66, kMK67, kMK68, kMK69, kMK70, kMK71, kMK72, kMK73, kMK74, kMK75, kMK76, kMK77, kMK78, kMK79, kMK80, kMK81, kMK82, kMK83, kMK84, kMK85, kMK86, kMK87, kMK88, kMK89, kMK90, kMK91, kMK92, kMK93, kMK94, kMK95, kMK96, kMK97, kMK98, kMK99, kMK100, kMK101, kMK102, kMK103, kMK104, n30, n00, m30, zup_zpr, zpr_at, zpr_zpr]
      have w0 : W1 = zpr W1 105 (W1 105) := by rw [zpr_self]
      rw [w0]
      refine zloop (fun r => ∃ g, r = some ((9, 0), R, g) ∧ BBK w g) (fun k a => ev 282 153 [(2, 100), (0, k)] [] R (zpr W1 105 a)) 84 (fun k a => 0 ≤ k ∧ ∀ q, 0 ≤ q → q < k → f (336 + q) = a q) ?_ ?_ 0 (W1 105) (by omega) ⟨by omega, fun p q0 q1 => by omega⟩
      · intro k a hk ⟨k0, hI⟩ ih
        rw [L3 k a k0 hk]
        refine ih _ ⟨by omega, fun q q0 q1 => ?_⟩
        rw [zrw_if]
        split
        next e => rw [e]
        next e => exact hI q q0 (by omega)
      · rintro a ⟨-, hI⟩
        rw [L3x]
        refine ⟨_, rfl, ?_, ?_, ?_⟩
        · intro b b0 b1
          rw [zpr_ne b0, zpr_ne (by omega), hw1 b (by omega), hw b (by omega)]
        · intro k k6 k7 k8 k10
          rw [zpr_at, zrw_ne k7, zrw_ne k6, zrw_ne k10, zrw_ne k8, hw1 100 (by omega), hw 100 (by omega)]
        · rw [hf]
          unfold ASF
          rw [zpr_at, zpr_ne (show (105 : Int) ≠ 100 by decide), zpr_at]
          simp (disch := decide) only [zpr_ne]
          refine ⟨?_, hs, hI, rfl, rfl, rfl, rfl⟩
          rw [hw1 101 (by omega), hw1 102 (by omega), hw1 103 (by omega), hw1 104 (by omega)]
          exact hp
    rw [v0]
    refine zloop (fun r => ∃ g, r = some ((9, 0), R, g) ∧ BBK w g) (fun k (x : (Int → Int) × (Int → Int) × (Int → Int) × (Int → Int)) => ev 282 75 [(2, 100), (0, k)] [] R (V x.1 x.2.1 x.2.2.1 x.2.2.2)) 20 (fun k x => 0 ≤ k ∧ ∀ s, 0 ≤ s → s < k → f (256 + s) = x.1 s ∧ f (276 + s) = x.2.1 s ∧ f (296 + s) = x.2.2.1 s ∧ f (316 + s) = x.2.2.2 s) ?_ ?_ 0 (W0 110, W0 111, W0 112, W0 113) (by omega) ⟨by omega, fun p q0 q1 => by omega⟩
    · rintro k ⟨a, b, c, d⟩ hk ⟨k0, hI⟩ ih
      dsimp only at hI ih ⊢
      rw [L2 k a b c d k0 hk]
      refine ih (zrw a k _, zrw b k _, zrw c k _, zrw d k _) ⟨by omega, fun q q0 q1 => ?_⟩
      dsimp only
      simp only [zrw_if]
      by_cases e : q = k
      · subst e
        simp only [if_true, and_self]
      · simp only [e, if_false]
        exact hI q q0 (by omega)
    · rintro ⟨a, b, c, d⟩ ⟨-, hI⟩
      dsimp only at hI ⊢
      rw [L2x]
      refine key2 _ (fun b hb => vn _ _ _ _ _ (by omega) (by omega) (by omega) (by omega)) ?_
      rw [v1, v2, v3, v4]
      exact hI
  have L0 : ev 282 0 [(2, 100), (9, 0)] [] R w = ev 282 2 [(2, 100), (0, 0)] [] R (V (w 101) (w 102) (w 103) (w 104)) := by
    have e : V (w 101) (w 102) (w 103) (w 104) = w := by
      rw [hV]
      funext q
      by_cases q4 : q = 104
      · subst q4; rw [zpr_at]
      · rw [zpr_ne q4]
        by_cases q3 : q = 103
        · subst q3; rw [zpr_at]
        · rw [zpr_ne q3]
          by_cases q2 : q = 102
          · subst q2; rw [zpr_at]
          · rw [zpr_ne q2]
            by_cases q1 : q = 101
            · subst q1; rw [zpr_at]
            · rw [zpr_ne q1]
    rw [e]
    simp only [s282_0, s282_1, s282_3, s282_5, s282_8, s282_9, s282_12, s282_13, s282_14, s282_17, s282_18, s282_19, s282_20, s282_21, s282_24, s282_25, s282_26, s282_29, s282_31, s282_32, s282_33, s282_34, s282_35, s282_36, s282_39, s282_40, s282_41, s282_44, s282_47, s282_48, s282_49, s282_50, s282_51, s282_52, s282_55, s282_56, s282_57, s282_60, s282_63, s282_64, s282_65, s282_66, s282_67, s282_70, s282_73, s282_74, s282_76, s282_78, s282_81, s282_82, s282_85, s282_86, s282_87, s282_90, s282_93, s282_94, s282_95, s282_96, s282_97, s282_98, s282_101, s282_102, s282_103, s282_106, s282_109, s282_110, s282_111, s282_112, s282_113, s282_114, s282_117, s282_118, s282_119, s282_122, s282_125, s282_126, s282_127, s282_128, s282_129, s282_130, s282_133, s282_134, s282_135, s282_138, s282_141, s282_142, s282_143, s282_144, s282_145, s282_148, s282_151, s282_152, s282_154, s282_156, s282_159, s282_160, s282_163, s282_164, s282_165, s282_168, s282_171, s282_172, s282_173, s282_174, s282_175, s282_178, s282_181, s282_182, s282_183, s282_186, s282_189, s282_190, s282_193, s282_194, s282_195, s282_198, s282_201, s282_202, s282_205, s282_206, s282_207, s282_210, s282_213, s282_214, s282_217, s282_218, s282_219, s282_222, s282_225, s282_226, s282_229, zps_0, zps_1, zps_2, zps_3, zps_9, Option.bind_some, Option.bind_none, Int.reduceEq, Int.reduceNe, Int.reduceLT, Int.reduceLE, Int.reduceNeg, Int.reduceAdd, Int.reduceSub, Int.reduceMul, reduceIte, if_true, if_false, true_and, and_true, false_and, and_false, or_true, true_or, or_false, false_or, not_true_eq_false, not_false_eq_true, ite_not, z_b0, z_b1, z_b01]
  rw [L0]
  refine zloop (fun r => ∃ g, r = some ((9, 0), R, g) ∧ BBK w g) (fun k (x : (Int → Int) × (Int → Int) × (Int → Int) × (Int → Int)) => ev 282 2 [(2, 100), (0, k)] [] R (V x.1 x.2.1 x.2.2.1 x.2.2.2)) 64 (fun k x => 0 ≤ k ∧ ∀ s, 0 ≤ s → s < k → f s = x.1 s ∧ f (64 + s) = x.2.1 s ∧ f (128 + s) = x.2.2.1 s ∧ f (192 + s) = x.2.2.2 s) ?_ ?_ 0 (w 101, w 102, w 103, w 104) (by omega) ⟨by omega, fun p q0 q1 => by omega⟩
  · rintro k ⟨a, b, c, d⟩ hk ⟨k0, hI⟩ ih
    dsimp only at hI ih ⊢
    rw [L1 k a b c d k0 hk]
    refine ih (zrw a k _, zrw b k _, zrw c k _, zrw d k _) ⟨by omega, fun q q0 q1 => ?_⟩
    dsimp only
    simp only [zrw_if]
    by_cases e : q = k
    · subst e
      simp only [if_true, and_self]
    · simp only [e, if_false]
      exact hI q q0 (by omega)
  · rintro ⟨a, b, c, d⟩ ⟨-, hI⟩
    dsimp only at hI ⊢
    rw [L1x]
    refine key _ (fun b hb => vn _ _ _ _ _ (by omega) (by omega) (by omega) (by omega)) ?_
    rw [v1, v2, v3, v4]
    exact hI
end ASIDE
