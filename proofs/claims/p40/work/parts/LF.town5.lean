/-! the town, from its beginning -/
/-- a row of longs of a later time -/
def JR (R : zM) (a n : Int) : Prop := KX R a = 21 ∧ LX R a = n
section TOWN5
variable {R m : zM} {x w h many : Int}
theorem l_town (hRK : RK R) (h0 : R 0 0 = 102) (hR0 : 0 ≤ R 0 2 ∧ R 0 2 ≤ 260) (hLR : LR R) (h62 : ∀ k, R 62 k = 0) (hN : NV m 3 ∧ BV m 3) (h33 : m 3 3 = 1) (h63 : m 63 0 = 0) (hw : 1 + lP (lC R 0) 4 = w) (hh : 1 + lP (lC R 1) 4 = h) : ∃ (R' m' : zM) (KK : Nat → Int → Int) (n : Nat), ev 330 0 [(2, 1), (4, x), (0, 0), (2, 101), (2, 102), (2, 100), (0, -1), (9, 0), (9, 0), (9, 0), (9, 0), (9, 0), (9, 0), (9, 0), (9, 0), (9, 0), (9, 0), (9, 0), (9, 0)] [] R m = some ((0, (n : Int)), R', m') ∧ n ≤ 6 ∧ RE R R' ∧ (102 ≤ R' 0 0 ∧ R' 0 0 ≤ 130) ∧ (R 0 1 ≤ R' 0 1 ∧ R' 0 1 ≤ R 0 1 + 1000) ∧ SV m' 40 ∧ (m' 3 0 = w ∧ m' 3 2 = w * h) ∧ m' 9 0 = n ∧ (∀ j : Nat, j < n → ∀ q : Int, 0 ≤ q → q < 7 → m' 10 (7 * (j : Int) + q) = rK (KK j) q) ∧ LRw m' KK n ∧ KOk w h KK n ∧ (∀ q, 0 ≤ q → q < 64 → m' 6 q = 0) ∧ (0 ≤ m' 58 0 ∧ m' 58 0 ≤ 40) ∧ m' 63 0 = 0 ∧ m' 87 0 = 0 ∧ m' 91 0 = 0 ∧ m' 2 3 = 0 := by
  have bw := lP_bd (lC R 0) (n := 4) (by decide)
  have bh := lP_bd (lC R 1) (n := 4) (by decide)
  have hw4 : 1 ≤ w ∧ w ≤ 4 := by omega
  have hh4 : 1 ≤ h ∧ h ≤ 4 := by omega
  have h16 := zwh4 hw4 hh4
  obtain ⟨m1, eB, s1, d1, z1, y1, l1, a1, p1, o1, t63, t64, r1⟩ := k_board (R := R) (m := m) (w := w) (h := h) hRK (by omega) (by omega) hN (by omega)
  have T1 := l_tn1 (R := R) (m := m) (x := x) hRK hR0 hw hh eB
  have I0 : TI m1 0 w h := ⟨SV_le s1 (by omega), d1, by omega, fun q q0 q1 => ⟨(z1 q q0 q1).1, (z1 q q0 q1).2.1⟩, fun q q0 q1 => (z1 q q0 q1).2.2⟩
  obtain ⟨m2, v10, T2, I2, f2⟩ := l_tn3 (R := R) (m := m1) (x := x) hRK hR0 hLR hw4 hh4 I0
  obtain ⟨N, hNN⟩ : ∃ N, w * h = N := ⟨_, rfl⟩
  rw [hNN] at T2 I2 h16 ⊢
  obtain ⟨many, hmany⟩ : ∃ k, lP (lC R 18) 7 = k := ⟨_, rfl⟩
  have bm := lP_bd (lC R 18) (n := 7) (by decide)
  rw [hmany] at bm
  -- the pending bytes' rows
  obtain ⟨R1, hR1⟩ : ∃ R1, znX R 20 2 = R1 := ⟨_, rfl⟩
  obtain ⟨R2, hR2⟩ : ∃ R2, znX R1 21 1 = R2 := ⟨_, rfl⟩
  have n1 : R1 0 0 = 103 := by rw [← hR1, znX_0, h0]; rfl
  have n2 : R2 0 0 = 104 := by rw [← hR2, znX_0, n1]; rfl
  have s2 : R2 0 1 = R 0 1 + 3 := by rw [← hR2, znX_1, ← hR1, znX_1]; omega
  have E1 : RE R R1 := by rw [← hR1]; exact zX_E (by omega) 20 2
  have E2 : RE R1 R2 := by rw [← hR2]; exact zX_E (by omega) 21 1
  have E : RE R R2 := RE_tr E1 E2
  have h99a : 99 ≤ R 0 0 := by omega
  have h99b : 99 ≤ R1 0 0 := by omega
  have l103 : (103 : Int) ≤ R1 0 0 := by omega
  have K1 : IR R1 103 2 := ⟨by have a := zX_k h99a 20 2; rw [h0] at a; rw [← hR1]; exact a, by have a := zX_l h99a 20 2; rw [h0] at a; rw [← hR1]; exact a⟩
  have K2 : JR R2 104 1 := ⟨by have a := zX_k h99b 21 1; rw [n1] at a; rw [← hR2]; exact a, by have a := zX_l h99b 21 1; rw [n1] at a; rw [← hR2]; exact a⟩
  have FL2 : FL R2 103 104 := ⟨IR_E E2 l103 K1, K2, by decide, by decide, by decide⟩
  obtain ⟨m3, hm3⟩ : ∃ m3, zrow m2 103 0 = m3 := ⟨_, rfl⟩
  obtain ⟨m4, hm4⟩ : ∃ m4, zrow m3 104 0 = m4 := ⟨_, rfl⟩
  have o4 : ∀ b, b ≤ 102 → m4 b = m2 b := fun b hb => by rw [← hm4, zrow_ne (by omega), ← hm3, zrow_ne (by omega)]
  have m4p : m4 103 = fun _ => 0 := by rw [← hm4, zrow_ne (by decide), ← hm3, zrow_at]
  have m4w : m4 104 = fun _ => 0 := by rw [← hm4, zrow_at]
  have hz1 : znl R = 103 := by unfold znl; rw [h0]; rfl
  have hz2 : znl R1 = 104 := by unfold znl; rw [n1]; rfl
  have kd1 : KD 103 = 0 := KD_big (by decide)
  have kd2 : KD 104 = 0 := KD_big (by decide)
  have r0 : 0 ≤ R 0 0 := by omega
  have r1' : 0 ≤ R1 0 0 := by omega
  have T3 : ev 330 161 [(2, 1), (4, x), (0, 0), (2, 101), (2, 102), (2, 100), (0, -1), (0, w), (0, h), (0, N), v10, (9, 0), (9, 0), (9, 0), (9, 0), (9, 0), (9, 0), (9, 0), (9, 0)] [] R m2 = ev 330 192 [(2, 1), (4, x), (0, 0), (2, 101), (2, 102), (2, 100), (0, -1), (0, w), (0, h), (0, many), (2, 103), (2, 104), (0, 0), (0, 0), (9, 0), (9, 0), (9, 0), (9, 0), (9, 0)] [] R2 m4 := by
    have C := l_cell (R := R) (m := m2) (k := 18) x (by omega) hR0
    have P := l_part (lC R 18) (n := 7) (by decide) (by decide) R m2
    rw [hmany] at P
    simp only [s330_0, s330_1, s330_2, s330_3, s330_6, s330_7, s330_10, s330_11, s330_13, s330_14, s330_15, s330_16, s330_17, s330_18, s330_21, s330_22, s330_25, s330_26, s330_28, s330_29, s330_31, s330_33, s330_36, s330_37, s330_40, s330_41, s330_42, s330_43, s330_47, s330_49, s330_51, s330_52, s330_55, s330_56, s330_57, s330_58, s330_59, s330_61, s330_62, s330_65, s330_67, s330_68, s330_70, s330_72, s330_73, s330_76, s330_79, s330_80, s330_83, s330_85, s330_86, s330_89, s330_92, s330_93, s330_96, s330_97, s330_98, s330_100, s330_102, s330_104, s330_105, s330_106, s330_107, s330_110, s330_111, s330_112, s330_114, s330_115, s330_118, s330_119, s330_121, s330_122, s330_124, s330_125, s330_128, s330_131, s330_133, s330_135, s330_136, s330_139, s330_140, s330_142, s330_144, s330_146, s330_147, s330_150, s330_153, s330_154, s330_155, s330_158, s330_161, s330_162, s330_163, s330_165, s330_166, s330_169, s330_171, s330_174, s330_176, s330_177, s330_179, s330_181, s330_182, s330_184, s330_186, s330_187, s330_189, s330_190, s330_194, s330_196, s330_199, s330_201, s330_203, s330_205, s330_207, s330_209, s330_211, s330_213, s330_214, s330_215, s330_217, s330_218, s330_219, s330_221, s330_222, s330_223, s330_225, s330_227, s330_229, s330_232, s330_234, s330_235, s330_237, s330_238, s330_242, s330_244, s330_247, s330_249, s330_252, s330_254, s330_255, s330_256, s330_257, s330_260, s330_262, s330_264, s330_266, s330_267, s330_268, s330_270, s330_271, s330_272, s330_275, s330_277, s330_279, s330_281, s330_282, s330_283, s330_284, s330_285, s330_287, s330_288, s330_289, s330_292, s330_294, s330_296, s330_298, s330_299, s330_300, s330_301, s330_302, s330_304, s330_305, s330_306, s330_309, s330_310, s330_313, s330_314, s330_316, s330_319, s330_322, s330_324, s330_327, s330_330, s330_331, s330_335, s330_337, s330_340, s330_342, s330_344, s330_346, s330_347, s330_349, s330_350, s330_352, s330_354, s330_355, s330_356, s330_359, s330_362, s330_364, s330_366, s330_369, s330_370, s330_372, s330_374, s330_376, s330_378, s330_381, s330_384, s330_387, s330_390, s330_392, s330_395, s330_397, s330_399, s330_402, s330_404, s330_405, s330_406, s330_409, s330_411, s330_413, s330_414, s330_416, s330_418, s330_421, s330_423, s330_426, s330_428, s330_431, s330_432, zps_0, zps_1, zps_2, zps_3, zps_9, Option.bind_some, Option.bind_none, Int.reduceEq, Int.reduceNe, Int.reduceLT, Int.reduceLE, Int.reduceNeg, Int.reduceAdd, Int.reduceSub, Int.reduceMul, reduceIte, if_true, if_false, true_and, and_true, false_and, and_false, or_true, true_or, or_false, false_or, not_true_eq_false, not_false_eq_true, ite_not, z_b0, z_b1, z_b01, zl1, zl2, zl18, zl19, C, P, hz1, kd1, r0, hR1, hm3, hz2, kd2, r1', hR2, hm4, and_self]
  have t2 : m2 63 = m 63 := by rw [f2 63 (by decide) (by decide) (by decide) (by decide) (by decide) (by decide) (by omega), t63]
  have F4 : FD m4 103 104 (cl []) 0 := ⟨by rw [m4p]; rfl, by rw [m4p], by rw [m4w]; rfl, by rw [o4 63 (by decide), t2, h63]; rfl, fun i i0 i1 => by omega⟩
  have hRK2 := RE_K E (by omega) hRK
  obtain ⟨R5, m5, KK, n, u14, u15, u16, u17, u18, T4, E5, e62, n5, s5, F5, L5, K5, hn5, o5⟩ := l_tnM (m0 := m4) (x := x) (w := w) (h := h) (many := many) hRK2 n2 (by rw [E.2.1 2 (by decide)]; exact hR0) FL2 (IR_E E (by omega) hLR.1) hw4 hh4 (by omega) F4 (v14 := (9, 0)) (v15 := (9, 0)) (v16 := (9, 0)) (v17 := (9, 0)) (v18 := (9, 0))
  have hRK5 := RE_K E5 (by omega) hRK2
  have EE : RE R R5 := RE_tr E E5
  have hasc := Asc_txs (w := w) (h := h) ⟨hw4.2, hh4.2⟩ n K5.1
  have jb := txs_le n K5.1
  have n6 : n ≤ 6 := by omega
  obtain ⟨m6, TL, j6, b6, -, o6⟩ := l_tells (R := R5) (m := m5) (lp := 103) (lw := 104) (j := ((txs KK n).length : Int)) (cs := cl (txs KK n)) hRK5 (FL_E E5 (by omega) (by omega) FL2) F5 (by omega) (fun i _ _ => cl_b hasc i)
  have x6 : ∀ b, b ≤ 102 → b ≠ 100 → b ≠ 63 → b ≠ 64 → m6 b = m2 b := fun b b1 b2 b3 b4 => by rw [o6 b (by omega) (by omega) b3 b4, o5 b b1 b2 b3 b4, o4 b b1]
  obtain ⟨i1, i2, i3, i4, i5⟩ := I2
  have S6 : SV m6 40 := SV_le (SV_c (fun a a0 a1 => x6 a (by omega) (by omega) (by omega) (by omega)) i1) (by omega)
  obtain ⟨L', hp, hrows⟩ := pAll_K (f := m6 64) (n := ((txs KK n).length : Int)) (w := w) (h := h) (KK := KK) (N := n) hw4 hh4 K5.1 (by omega) K5.2 (cl_Sp (fun i _ hi => b6 (i : Int) (Int.natCast_nonneg i) (Int.ofNat_lt.mpr hi))) rfl (m6 69)
  have m58 : m6 58 0 = m2 58 0 := by rw [x6 58 (by decide) (by decide) (by decide) (by decide)]
  have R62 : R5 62 (m6 58 0) = 0 := by
    rw [e62, ← hR2, zX_r (by omega) (by decide) (by omega), ← hR1, zX_r (by omega) (by decide) (by omega)]
    exact h62 _
  obtain ⟨R7, m7, LW7, E7, n7, s7, S7, l7, r7, a7, t7, o7⟩ := k_laws (R := R5) (m := m6) (c := 40) hRK5 S6 (by omega) (by omega) R62 j6 (by omega) hp
  have TT := TL _ _ _ LW7
  have T5 : ev 330 192 [(2, 1), (4, x), (0, 0), (2, 101), (2, 102), (2, 100), (0, -1), (0, w), (0, h), (0, many), (2, 103), (2, 104), (0, (n : Int)), (0, many), u14, u15, u16, u17, u18] [] R5 m5 = some ((0, (n : Int)), R7, m7) := by
    have dm : (-1 : Int) < 0 := by decide
    rw [s330_192]
    simp only [s330_0, s330_1, s330_2, s330_3, s330_6, s330_7, s330_10, s330_11, s330_13, s330_14, s330_15, s330_16, s330_17, s330_18, s330_21, s330_22, s330_25, s330_26, s330_28, s330_29, s330_31, s330_33, s330_36, s330_37, s330_40, s330_41, s330_42, s330_43, s330_47, s330_49, s330_51, s330_52, s330_55, s330_56, s330_57, s330_58, s330_59, s330_61, s330_62, s330_65, s330_67, s330_68, s330_70, s330_72, s330_73, s330_76, s330_79, s330_80, s330_83, s330_85, s330_86, s330_89, s330_92, s330_93, s330_96, s330_97, s330_98, s330_100, s330_102, s330_104, s330_105, s330_106, s330_107, s330_110, s330_111, s330_112, s330_114, s330_115, s330_118, s330_119, s330_121, s330_122, s330_124, s330_125, s330_128, s330_131, s330_133, s330_135, s330_136, s330_139, s330_140, s330_142, s330_144, s330_146, s330_147, s330_150, s330_153, s330_154, s330_155, s330_158, s330_161, s330_162, s330_163, s330_165, s330_166, s330_169, s330_171, s330_174, s330_176, s330_177, s330_179, s330_181, s330_182, s330_184, s330_186, s330_187, s330_189, s330_190, s330_194, s330_196, s330_199, s330_201, s330_203, s330_205, s330_207, s330_209, s330_211, s330_213, s330_214, s330_215, s330_217, s330_218, s330_219, s330_221, s330_222, s330_223, s330_225, s330_227, s330_229, s330_232, s330_234, s330_235, s330_237, s330_238, s330_242, s330_244, s330_247, s330_249, s330_252, s330_254, s330_255, s330_256, s330_257, s330_260, s330_262, s330_264, s330_266, s330_267, s330_268, s330_270, s330_271, s330_272, s330_275, s330_277, s330_279, s330_281, s330_282, s330_283, s330_284, s330_285, s330_287, s330_288, s330_289, s330_292, s330_294, s330_296, s330_298, s330_299, s330_300, s330_301, s330_302, s330_304, s330_305, s330_306, s330_309, s330_310, s330_313, s330_314, s330_316, s330_319, s330_322, s330_324, s330_327, s330_330, s330_331, s330_335, s330_337, s330_340, s330_342, s330_344, s330_346, s330_347, s330_349, s330_350, s330_352, s330_354, s330_355, s330_356, s330_359, s330_362, s330_364, s330_366, s330_369, s330_370, s330_372, s330_374, s330_376, s330_378, s330_381, s330_384, s330_387, s330_390, s330_392, s330_395, s330_397, s330_399, s330_402, s330_404, s330_405, s330_406, s330_409, s330_411, s330_413, s330_414, s330_416, s330_418, s330_421, s330_423, s330_426, s330_428, s330_431, s330_432, zps_0, zps_1, zps_2, zps_3, zps_9, Option.bind_some, Option.bind_none, Int.reduceEq, Int.reduceNe, Int.reduceLT, Int.reduceLE, Int.reduceNeg, Int.reduceAdd, Int.reduceSub, Int.reduceMul, reduceIte, if_true, if_false, true_and, and_true, false_and, and_false, or_true, true_or, or_false, false_or, not_true_eq_false, not_false_eq_true, ite_not, z_b0, z_b1, z_b01, Int.le_refl, dm, TT, if_true]
  have o76 : ∀ b, b ≤ 102 → b ≠ 9 → b ≠ 10 → (b < 58 ∨ 61 < b) → (b < 63 ∨ 69 < b) → b ≠ 100 → m7 b = m2 b := fun b b1 b9 b10 b58 b63 b100 => by rw [o7 b (by omega) b9 b10 b58 b63, x6 b b1 b100 (by omega) (by omega)]
  have f2' : ∀ b, b ≠ 3 → b ≠ 4 → b ≠ 5 → b ≠ 7 → b ≠ 101 → b ≠ 102 → (b < 58 ∨ 61 < b) → m2 b = m1 b := f2
  refine ⟨R7, m7, KK, n, ?_, n6, RE_tr EE E7, by omega, by omega, S7, ?_, l7, fun j hj q q0 q1 => by rw [r7 _ q (by omega) (by omega) q0 q1]; exact hrows j hj q q0 q1, fun j hj q q0 q1 => ?_, K5, fun q q0 q1 => ?_, ?_, t7, ?_, ?_, ?_⟩
  · rw [T1, T2, T3, T4, T5]
  · rw [o76 3 (by decide) (by decide) (by decide) (by omega) (by omega) (by decide)]
    exact ⟨i2.1, i2.2.2.trans hNN⟩
  · rw [o7 100 (by omega) (by decide) (by decide) (by omega) (by omega), o6 100 (by decide) (by decide) (by decide) (by decide)]
    exact L5 j hj q q0 q1
  · rw [o76 6 (by decide) (by decide) (by decide) (by omega) (by omega) (by decide)]
    exact i5 q q0 q1
  · rw [a7]; omega
  · rw [o76 87 (by decide) (by decide) (by decide) (by omega) (by omega) (by decide), f2' 87 (by decide) (by decide) (by decide) (by decide) (by decide) (by decide) (by omega)]; exact p1
  · rw [o76 91 (by decide) (by decide) (by decide) (by omega) (by omega) (by decide), f2' 91 (by decide) (by decide) (by decide) (by decide) (by decide) (by decide) (by omega)]; exact o1
  · rw [o76 2 (by decide) (by decide) (by decide) (by omega) (by omega) (by decide), f2' 2 (by decide) (by decide) (by decide) (by decide) (by decide) (by decide) (by omega)]; exact y1
end TOWN5
