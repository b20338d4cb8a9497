/-! the class's state, as this law needs it: no seeker, at most c changes of the board -/
def SV (m : zM) (c : Int) : Prop := TG m 2 ∧ (0 ≤ m 3 3 ∧ m 3 3 ≤ c) ∧ (0 ≤ m 2 3 ∧ m 2 3 ≤ 10) ∧ m 2 4 = 0 ∧ m 11 0 = 0
theorem TG_c {m m' : zM} (f : ∀ a, 3 ≤ a → a ≤ 10 → m' a = m a) (h : TG m 2) : TG m' 2 := by
  obtain ⟨hV, hN, hT, hL⟩ := h
  obtain ⟨a, b⟩ := BT_fr (o := 3) (fun a a0 a1 => f a (by omega) (by omega)) hV hT
  refine ⟨a, NV_c (o := 3) (by rw [f 3 (by omega) (by omega)]) (by rw [f 3 (by omega) (by omega)]) (f 8 (by omega) (by omega)) hN, b, ?_⟩
  show LW (m' 9 0) (m' 10)
  rw [f 9 (by omega) (by omega), f 10 (by omega) (by omega)]
  exact hL
theorem SV_c {m m' : zM} {c : Int} (f : ∀ a, 2 ≤ a → a ≤ 11 → m' a = m a) (h : SV m c) : SV m' c := by
  obtain ⟨h1, h2, h3, h4, h5⟩ := h
  refine ⟨TG_c (fun a a0 a1 => f a (by omega) (by omega)) h1, ?_, ?_, ?_, ?_⟩
  · rw [f 3 (by omega) (by omega)]; exact h2
  · rw [f 2 (by omega) (by omega)]; exact h3
  · rw [f 2 (by omega) (by omega)]; exact h4
  · rw [f 11 (by omega) (by omega)]; exact h5
theorem SV_le {m : zM} {c c' : Int} (h : SV m c) (hc : c ≤ c') : SV m c' := ⟨h.1, ⟨h.2.1.1, Int.le_trans h.2.1.2 hc⟩, h.2.2⟩
section KSTATE
variable {R m : zM} {c p g : Int}
theorem SV_B (h : SV m c) : BV m 3 := h.1.1
theorem SV_T (h : SV m c) : TV m 3 := h.1.2.2.1
theorem SV_n (h : SV m c) : 1 ≤ m 3 2 ∧ m 3 2 ≤ 64 := by
  have hB := SV_B h
  exact ⟨hB.2.2.2.2.2.2.1, hB.2.2.2.2.2.1⟩
theorem SV_p (h : SV m c) (hp : 0 ≤ p ∧ p < m 3 2) : (0 ≤ m 4 p ∧ m 4 p ≤ 2) ∧ (0 ≤ m 5 p ∧ m 5 p ≤ 9) ∧ (0 ≤ m 6 p ∧ m 6 p ≤ 3) := (SV_B h).2.2.2.2.2.2.2 p hp.1 hp.2
theorem k_has (hR : RK R) (p : Int) : ev 18 0 [(2, 3), (0, p)] [] R m = some ((0, if 0 ≤ p ∧ p < m 3 2 then 1 else 0), R, m) := tz_has (TK_B3 hR.1) p
theorem k_board (hR : RK R) {w h : Int} (hv : 1 ≤ w ∧ w ≤ 8) (hh : 1 ≤ h ∧ h ≤ 8) (hN : NV m 3 ∧ BV m 3) (hC : 0 ≤ m 3 3 ∧ m 3 3 ≤ 1000) : ∃ m' : zM, ev 181 0 [(2, 1), (0, w), (0, h)] [] R m = some ((0, 1), R, m') ∧ SV m' (m 3 3 + 1) ∧ (m' 3 0 = w ∧ m' 3 1 = h ∧ m' 3 2 = w * h) ∧ (∀ p, 0 ≤ p → p < 64 → m' 4 p = 0 ∧ m' 5 p = 0 ∧ m' 6 p = 0) ∧ m' 2 3 = 0 ∧ m' 9 0 = 0 ∧ m' 58 0 = 0 ∧ m' 87 0 = 0 ∧ m' 91 0 = 0 ∧ m' 63 = m 63 ∧ m' 64 = m 64 ∧ ∀ b, 99 < b → m' b = m b := by
  obtain ⟨hT2, hT30, hL68, hGK, hAK, hXK, hWK, hPK, hQK, hNK, hCK⟩ := hR
  have W1 := tz_within w 1 8 R m
  have W2 := tz_within h 1 8 R m
  rw [if_pos hv] at W1
  rw [if_pos hh] at W2
  obtain ⟨m1, G1, hTB⟩ := tz_tbegin (R := R) (m := m) hT2 hv hh ⟨hC.1, by have := hC.2; show m 3 3 < 2000000000; omega⟩ hN
  have r1 : ∀ b, (b < 2 ∨ b = 10 ∨ 11 < b) → m1 b = m b := fun b hb => hTB.1 b (by simp only [List.mem_cons, List.not_mem_nil, or_false]; omega)
  have c3 : m1 3 3 = m 3 3 + 1 := hTB.2.2.1
  have hBN : BN m1 3 w h := hTB.2.1
  have m2 : m1 2 = zrw (zrw (m 2) 3 0) 4 0 := hTB.2.2.2.1
  have m9 : m1 9 = zrw (m 9) 0 0 := hTB.2.2.2.2.1
  have m11 : m1 11 = zrw (m 11) 0 0 := hTB.2.2.2.2.2
  obtain ⟨a1, A1, a1e, a1o⟩ := tz_aforget (m := m1) hAK
  obtain ⟨a2, A2, a2e, a2z, a2o⟩ := tz_wforget (m := a1) hWK
  obtain ⟨a3, A3, a3e, a3o⟩ := tz_tforget (m := a2) hPK
  obtain ⟨x, hx⟩ : ∃ x, zpr (zpr a3 87 (zrw (a3 87) 0 0)) 91 (zrw (zpr a3 87 (zrw (a3 87) 0 0) 91) 0 0) = x := ⟨_, rfl⟩
  have x91 : x 91 0 = 0 := by rw [← hx, zpr_at, zrw_at]
  have x87 : x 87 0 = 0 := by rw [← hx, zpr_ne (by decide), zpr_at, zrw_at]
  have x58 : x 58 0 = 0 := by rw [← hx, zpr_ne (by decide), zpr_ne (by decide), a3o 58 (by decide), a2o 58 (by decide) (by decide), a1e, zrw_at]
  have xo : ∀ b, b ≠ 58 → b ≠ 70 → b ≠ 72 → b ≠ 79 → b ≠ 87 → b ≠ 91 → x b = m1 b := fun b b1 b2 b3 b4 b5 b6 => by rw [← hx, zpr_ne b6, zpr_ne b5, a3o b b4, a2o b b2 b3, a1o b b1]
  have x9 : x 9 0 = 0 := by rw [xo 9 (by decide) (by decide) (by decide) (by decide) (by decide) (by decide), m9, zrw_at]
  have hTG1 : TG m1 2 := by
    refine ⟨hBN.1, hBN.2.1, ?_, ?_⟩
    · intro i q i0 i1 q0 q1
      have z4 := hBN.2.2.2.2.2.2 i i0 i1
      have z3 := hBN.2.2.2.2.2.1 q q0 q1
      show zbt (m1 (3 + 4) i) q = _
      rw [z4, zbt_0]
      show false = (decide (q < m1 3 2) && zthing (m1 (3 + 1)) (m1 (3 + 3)) i q)
      have : zthing (m1 (3 + 1)) (m1 (3 + 3)) i q = false := by
        unfold zthing
        rw [z3.1, z3.2.2]
        split
        · exact decide_eq_false (by omega)
        · exact decide_eq_false (by omega)
      rw [this, Bool.and_false]
    · show LW (m1 9 0) (m1 10)
      rw [m9, zrw_at]
      exact ⟨by omega, fun k k0 k1 => by omega, fun j k j0 jk k0 _ => by omega⟩
  have hk : ∀ a, 2 ≤ a → a ≤ 11 → x a = m1 a := fun a a0 a1 => xo a (by omega) (by omega) (by omega) (by omega) (by omega) (by omega)
  have hSV1 : SV m1 (m 3 3 + 1) := ⟨hTG1, by rw [c3]; omega, by rw [m2, zrw_ne (by decide), zrw_at]; omega, by rw [m2, zrw_at], by rw [m11, zrw_at]⟩
  refine ⟨x, ?_, SV_c hk hSV1, ?_, fun p p0 p1 => ?_, ?_, x9, x58, x87, x91, ?_, ?_, fun b hb => ?_⟩
  · simp only [s181_0, s181_1, s181_2, s181_4, s181_7, s181_10, s181_11, s181_12, s181_14, s181_17, s181_20, s181_21, s181_22, s181_23, s181_26, s181_27, s181_28, s181_31, s181_32, s181_35, s181_38, s181_39, s181_42, s181_45, s181_46, s181_49, s181_52, s181_53, s181_56, s181_57, s181_60, s181_61, s181_64, s181_65, s181_68, s181_69, zps_0, zps_1, zps_2, zps_3, zps_9, Option.bind_some, Option.bind_none, Int.reduceEq, Int.reduceNe, Int.reduceLT, Int.reduceLE, Int.reduceNeg, Int.reduceAdd, Int.reduceSub, Int.reduceMul, reduceIte, if_true, if_false, true_and, and_true, false_and, and_false, or_true, true_or, or_false, false_or, not_true_eq_false, not_false_eq_true, ite_not, z_b0, z_b1, z_b01, rGK0 hGK, rGK1 hGK, rGK2 hGK, rGK3 hGK, rGK4 hGK, rGK5 hGK, rGK6 hGK, rGK7 hGK, rGK8 hGK, rGK9 hGK, kGK0, kd2, kd3, kd9, kd11, r2_0 hT2, r2_1 hT2, r2_2 hT2, W1, W2, G1, A1, A2, A3, kAK0, kWK0, kPK0, kQK0, kNK0, zup_zpr, hx, if_true, if_false]
  · rw [hk 3 (by omega) (by omega)]
    exact ⟨hBN.2.2.1, hBN.2.2.2.1, hBN.2.2.2.2.1⟩
  · rw [hk 4 (by omega) (by omega), hk 5 (by omega) (by omega), hk 6 (by omega) (by omega)]
    exact hBN.2.2.2.2.2.1 p p0 p1
  · rw [hk 2 (by omega) (by omega), m2, zrw_ne (by decide), zrw_at]
  · rw [xo 63 (by decide) (by decide) (by decide) (by decide) (by decide) (by decide), r1 63 (by omega)]
  · rw [xo 64 (by decide) (by decide) (by decide) (by decide) (by decide) (by decide), r1 64 (by omega)]
  · rw [xo b (by omega) (by omega) (by omega) (by omega) (by omega) (by omega), r1 b (by omega)]
theorem k_plot0 (hR : RK R) (h : SV m c) (hp : 0 ≤ p ∧ p < m 3 2) : ev 185 0 [(2, 1), (0, p), (0, 0)] [] R m = some ((0, m 4 p), R, m) := by
  obtain ⟨hT2, hT30, hL68, hGK, hAK, hXK, hWK, hPK, hQK, hNK, hCK⟩ := hR
  have H := tz_has (m := m) (TK_B3 hT2) p
  rw [if_pos hp] at H
  have G := tz_groundOf (R := R) (TK_B3 hT2) (SV_B h) p
  rw [if_pos hp] at G
  simp only [Int.reduceAdd] at G
  simp only [s185_0, s185_1, s185_4, s185_7, s185_8, s185_11, s185_14, s185_15, s185_16, s185_17, s185_48, s185_49, s185_52, s185_55, s185_56, s185_59, s185_60, s185_61, s185_64, s185_67, s185_68, s185_71, s185_72, s185_73, s185_76, s185_79, s185_80, s185_83, s185_84, s185_85, s185_88, s185_91, s185_92, s185_95, s185_96, s185_97, zps_0, zps_1, zps_2, zps_3, zps_9, Option.bind_some, Option.bind_none, Int.reduceEq, Int.reduceNe, Int.reduceLT, Int.reduceLE, Int.reduceNeg, Int.reduceAdd, Int.reduceSub, Int.reduceMul, reduceIte, if_true, if_false, true_and, and_true, false_and, and_false, or_true, true_or, or_false, false_or, not_true_eq_false, not_false_eq_true, ite_not, z_b0, z_b1, z_b01, rGK0 hGK, rGK1 hGK, rGK2 hGK, rGK3 hGK, rGK4 hGK, rGK5 hGK, rGK6 hGK, rGK7 hGK, rGK8 hGK, rGK9 hGK, kGK0, kd2, kd3, kd9, kd11, r2_0 hT2, r2_1 hT2, r2_2 hT2, H, G]
theorem k_plot2 (hR : RK R) (h : SV m c) (hp : 0 ≤ p ∧ p < m 3 2) : ev 185 0 [(2, 1), (0, p), (0, 2)] [] R m = some ((0, m 6 p), R, m) := by
  obtain ⟨hT2, hT30, hL68, hGK, hAK, hXK, hWK, hPK, hQK, hNK, hCK⟩ := hR
  have H := tz_has (m := m) (TK_B3 hT2) p
  rw [if_pos hp] at H
  have UU := tz_useOf (R := R) (m := m) (p := p) (TK_B3 hT2) (SV_B h) hp
  simp only [Int.reduceAdd] at UU
  simp only [s185_0, s185_1, s185_4, s185_7, s185_8, s185_11, s185_14, s185_15, s185_16, s185_17, s185_48, s185_49, s185_52, s185_55, s185_56, s185_59, s185_60, s185_61, s185_64, s185_67, s185_68, s185_71, s185_72, s185_73, s185_76, s185_79, s185_80, s185_83, s185_84, s185_85, s185_88, s185_91, s185_92, s185_95, s185_96, s185_97, zps_0, zps_1, zps_2, zps_3, zps_9, Option.bind_some, Option.bind_none, Int.reduceEq, Int.reduceNe, Int.reduceLT, Int.reduceLE, Int.reduceNeg, Int.reduceAdd, Int.reduceSub, Int.reduceMul, reduceIte, if_true, if_false, true_and, and_true, false_and, and_false, or_true, true_or, or_false, false_or, not_true_eq_false, not_false_eq_true, ite_not, z_b0, z_b1, z_b01, rGK0 hGK, rGK1 hGK, rGK2 hGK, rGK3 hGK, rGK4 hGK, rGK5 hGK, rGK6 hGK, rGK7 hGK, rGK8 hGK, rGK9 hGK, kGK0, kd2, kd3, kd9, kd11, r2_0 hT2, r2_1 hT2, r2_2 hT2, H, UU]
theorem k_count0 (hR : RK R) : ev 226 0 [(2, 1), (0, 0)] [] R m = some ((0, m 3 2), R, m) := by
  obtain ⟨hT2, hT30, hL68, hGK, hAK, hXK, hWK, hPK, hQK, hNK, hCK⟩ := hR
  simp only [s226_0, s226_1, s226_100, s226_101, s226_104, s226_107, s226_110, s226_111, s226_112, s226_115, s226_118, s226_121, s226_122, s226_123, s226_126, s226_129, s226_132, s226_133, s226_134, s226_137, s226_140, s226_143, s226_144, s226_145, s226_148, s226_151, s226_152, s226_153, s226_156, s226_159, s226_160, s226_161, s226_164, s226_167, s226_168, s226_169, s226_172, s226_175, s226_176, s226_177, s226_180, s226_183, s226_184, s226_185, s226_188, s226_191, s226_192, s226_193, s226_196, s226_199, s226_200, s226_201, s226_204, s226_207, s226_208, s226_209, s226_212, s226_213, s226_216, s226_219, s226_221, s226_224, s226_225, s226_228, s226_229, s226_232, s226_233, s226_234, s226_237, s226_240, s226_243, s226_244, s226_247, s226_250, s226_253, s226_254, s226_255, s226_256, s226_258, s226_260, s226_263, s226_266, s226_267, s226_270, s226_273, s226_274, s226_276, s226_277, s226_280, s226_283, s226_284, zps_0, zps_1, zps_2, zps_3, zps_9, Option.bind_some, Option.bind_none, Int.reduceEq, Int.reduceNe, Int.reduceLT, Int.reduceLE, Int.reduceNeg, Int.reduceAdd, Int.reduceSub, Int.reduceMul, reduceIte, if_true, if_false, true_and, and_true, false_and, and_false, or_true, true_or, or_false, false_or, not_true_eq_false, not_false_eq_true, ite_not, z_b0, z_b1, z_b01, rGK0 hGK, rGK1 hGK, rGK2 hGK, rGK3 hGK, rGK4 hGK, rGK5 hGK, rGK6 hGK, rGK7 hGK, rGK8 hGK, rGK9 hGK, kGK0, kd2, kd3, kd9, kd11, r2_0 hT2, r2_1 hT2, r2_2 hT2]
theorem k_count2 (hR : RK R) : ev 226 0 [(2, 1), (0, 2)] [] R m = some ((0, m 9 0), R, m) := by
  obtain ⟨hT2, hT30, hL68, hGK, hAK, hXK, hWK, hPK, hQK, hNK, hCK⟩ := hR
  simp only [s226_0, s226_1, s226_100, s226_101, s226_104, s226_107, s226_110, s226_111, s226_112, s226_115, s226_118, s226_121, s226_122, s226_123, s226_126, s226_129, s226_132, s226_133, s226_134, s226_137, s226_140, s226_143, s226_144, s226_145, s226_148, s226_151, s226_152, s226_153, s226_156, s226_159, s226_160, s226_161, s226_164, s226_167, s226_168, s226_169, s226_172, s226_175, s226_176, s226_177, s226_180, s226_183, s226_184, s226_185, s226_188, s226_191, s226_192, s226_193, s226_196, s226_199, s226_200, s226_201, s226_204, s226_207, s226_208, s226_209, s226_212, s226_213, s226_216, s226_219, s226_221, s226_224, s226_225, s226_228, s226_229, s226_232, s226_233, s226_234, s226_237, s226_240, s226_243, s226_244, s226_247, s226_250, s226_253, s226_254, s226_255, s226_256, s226_258, s226_260, s226_263, s226_266, s226_267, s226_270, s226_273, s226_274, s226_276, s226_277, s226_280, s226_283, s226_284, zps_0, zps_1, zps_2, zps_3, zps_9, Option.bind_some, Option.bind_none, Int.reduceEq, Int.reduceNe, Int.reduceLT, Int.reduceLE, Int.reduceNeg, Int.reduceAdd, Int.reduceSub, Int.reduceMul, reduceIte, if_true, if_false, true_and, and_true, false_and, and_false, or_true, true_or, or_false, false_or, not_true_eq_false, not_false_eq_true, ite_not, z_b0, z_b1, z_b01, rGK0 hGK, rGK1 hGK, rGK2 hGK, rGK3 hGK, rGK4 hGK, rGK5 hGK, rGK6 hGK, rGK7 hGK, rGK8 hGK, rGK9 hGK, kGK0, kd2, kd3, kd9, kd11, r2_0 hT2, r2_1 hT2, r2_2 hT2]
theorem k_count6 (hR : RK R) : ev 226 0 [(2, 1), (0, 6)] [] R m = some ((0, m 58 0), R, m) := by
  obtain ⟨hT2, hT30, hL68, hGK, hAK, hXK, hWK, hPK, hQK, hNK, hCK⟩ := hR
  simp only [s226_0, s226_1, s226_100, s226_101, s226_104, s226_107, s226_110, s226_111, s226_112, s226_115, s226_118, s226_121, s226_122, s226_123, s226_126, s226_129, s226_132, s226_133, s226_134, s226_137, s226_140, s226_143, s226_144, s226_145, s226_148, s226_151, s226_152, s226_153, s226_156, s226_159, s226_160, s226_161, s226_164, s226_167, s226_168, s226_169, s226_172, s226_175, s226_176, s226_177, s226_180, s226_183, s226_184, s226_185, s226_188, s226_191, s226_192, s226_193, s226_196, s226_199, s226_200, s226_201, s226_204, s226_207, s226_208, s226_209, s226_212, s226_213, s226_216, s226_219, s226_221, s226_224, s226_225, s226_228, s226_229, s226_232, s226_233, s226_234, s226_237, s226_240, s226_243, s226_244, s226_247, s226_250, s226_253, s226_254, s226_255, s226_256, s226_258, s226_260, s226_263, s226_266, s226_267, s226_270, s226_273, s226_274, s226_276, s226_277, s226_280, s226_283, s226_284, zps_0, zps_1, zps_2, zps_3, zps_9, Option.bind_some, Option.bind_none, Int.reduceEq, Int.reduceNe, Int.reduceLT, Int.reduceLE, Int.reduceNeg, Int.reduceAdd, Int.reduceSub, Int.reduceMul, reduceIte, if_true, if_false, true_and, and_true, false_and, and_false, or_true, true_or, or_false, false_or, not_true_eq_false, not_false_eq_true, ite_not, z_b0, z_b1, z_b01, rGK0 hGK, rGK1 hGK, rGK2 hGK, rGK3 hGK, rGK4 hGK, rGK5 hGK, rGK6 hGK, rGK7 hGK, rGK8 hGK, rGK9 hGK, kGK0, kd2, kd3, kd9, kd11, r2_0 hT2, r2_1 hT2, r2_2 hT2, kAK0]
theorem k_count11 (hR : RK R) : ev 226 0 [(2, 1), (0, 11)] [] R m = some ((0, m 63 0), R, m) := by
  obtain ⟨hT2, hT30, hL68, hGK, hAK, hXK, hWK, hPK, hQK, hNK, hCK⟩ := hR
  simp only [s226_0, s226_1, s226_100, s226_101, s226_104, s226_107, s226_110, s226_111, s226_112, s226_115, s226_118, s226_121, s226_122, s226_123, s226_126, s226_129, s226_132, s226_133, s226_134, s226_137, s226_140, s226_143, s226_144, s226_145, s226_148, s226_151, s226_152, s226_153, s226_156, s226_159, s226_160, s226_161, s226_164, s226_167, s226_168, s226_169, s226_172, s226_175, s226_176, s226_177, s226_180, s226_183, s226_184, s226_185, s226_188, s226_191, s226_192, s226_193, s226_196, s226_199, s226_200, s226_201, s226_204, s226_207, s226_208, s226_209, s226_212, s226_213, s226_216, s226_219, s226_221, s226_224, s226_225, s226_228, s226_229, s226_232, s226_233, s226_234, s226_237, s226_240, s226_243, s226_244, s226_247, s226_250, s226_253, s226_254, s226_255, s226_256, s226_258, s226_260, s226_263, s226_266, s226_267, s226_270, s226_273, s226_274, s226_276, s226_277, s226_280, s226_283, s226_284, zps_0, zps_1, zps_2, zps_3, zps_9, Option.bind_some, Option.bind_none, Int.reduceEq, Int.reduceNe, Int.reduceLT, Int.reduceLE, Int.reduceNeg, Int.reduceAdd, Int.reduceSub, Int.reduceMul, reduceIte, if_true, if_false, true_and, and_true, false_and, and_false, or_true, true_or, or_false, false_or, not_true_eq_false, not_false_eq_true, ite_not, z_b0, z_b1, z_b01, rGK0 hGK, rGK1 hGK, rGK2 hGK, rGK3 hGK, rGK4 hGK, rGK5 hGK, rGK6 hGK, rGK7 hGK, rGK8 hGK, rGK9 hGK, kGK0, kd2, kd3, kd9, kd11, r2_0 hT2, r2_1 hT2, r2_2 hT2, kXK0]
theorem k_fault (hR : RK R) : ev 189 0 [(2, 1)] [] R m = some ((0, m 63 1), R, m) := by
  obtain ⟨hT2, hT30, hL68, hGK, hAK, hXK, hWK, hPK, hQK, hNK, hCK⟩ := hR
  simp only [s189_0, s189_1, s189_4, s189_7, zps_0, zps_1, zps_2, zps_3, zps_9, Option.bind_some, Option.bind_none, Int.reduceEq, Int.reduceNe, Int.reduceLT, Int.reduceLE, Int.reduceNeg, Int.reduceAdd, Int.reduceSub, Int.reduceMul, reduceIte, if_true, if_false, true_and, and_true, false_and, and_false, or_true, true_or, or_false, false_or, not_true_eq_false, not_false_eq_true, ite_not, z_b0, z_b1, z_b01, rGK0 hGK, rGK1 hGK, rGK2 hGK, rGK3 hGK, rGK4 hGK, rGK5 hGK, rGK6 hGK, rGK7 hGK, rGK8 hGK, rGK9 hGK, kGK0, kXK0]
end KSTATE
