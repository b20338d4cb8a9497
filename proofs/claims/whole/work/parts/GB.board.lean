/-! board -/
section BOARDX
variable {R m x y w : zM} {p g u S0 K Y : Int}
theorem tz_aforget (hAK : AK R) : ∃ a, ev 2 0 [(2, 58)] [] R m = some ((9, 0), R, a) ∧ a 58 = zrw (m 58) 0 0 ∧ ∀ b, b ≠ 58 → a b = m b := by
  refine ⟨zpr m 58 (zrw (m 58) 0 0), ?_, zpr_at _ _ _, fun b hb => zpr_ne hb⟩
  simp only [s2_0, s2_1, s2_2, s2_5, zps_0, zps_1, zps_2, zps_3, zps_9, Option.bind_some, Option.bind_none, Int.reduceEq, Int.reduceNe, Int.reduceLT, Int.reduceLE, Int.reduceNeg, Int.reduceAdd, Int.reduceSub, Int.reduceMul, reduceIte, if_true, if_false, true_and, and_true, false_and, and_false, or_true, true_or, or_false, false_or, not_true_eq_false, not_false_eq_true, ite_not, z_b0, z_b1, z_b01, kAK0, zup_zpr]
theorem tz_wforget (hWK : WK R) : ∃ a, ev 147 0 [(2, 70)] [] R m = some ((9, 0), R, a) ∧ a 70 = zrw (m 70) 1 0 ∧ (∀ t, 0 ≤ t → t < 4 → a 72 t = 0) ∧ ∀ b, b ≠ 70 → b ≠ 72 → a b = m b := by
  obtain ⟨q, hq⟩ : ∃ q, zpr m 70 (zrw (m 70) 1 0) = q := ⟨_, rfl⟩
  have F : ev 319 0 [(2, 72), (0, 0), (9, 0), (9, 0)] [] R q = some ((9, 0), R, zpr q 72 (zfll (q 72) 4 0)) := tz_fill (R := R) (m := q) (a := 72) (n := 4) 0 (by simp only [rWK0 hWK, rWK1 hWK, rWK2 hWK, rWK3 hWK, rWK4 hWK, rWK5 hWK, rWK6 hWK, rWK7 hWK, rWK8 hWK, kWK0, kWK1, kWK2, kWK3, kWK4, kWK5, kWK6, kWK7, kWK8, kWK9, kWK10, kWK11, kWK12, kWK13, kWK14, kWK15, kWK16]) (by simp only [rWK0 hWK, rWK1 hWK, rWK2 hWK, rWK3 hWK, rWK4 hWK, rWK5 hWK, rWK6 hWK, rWK7 hWK, rWK8 hWK, kWK0, kWK1, kWK2, kWK3, kWK4, kWK5, kWK6, kWK7, kWK8, kWK9, kWK10, kWK11, kWK12, kWK13, kWK14, kWK15, kWK16]) (by omega) (by omega)
  refine ⟨zpr q 72 (zfll (q 72) 4 0), ?_, by rw [zpr_ne (by decide), ← hq, zpr_at], fun t t0 t1 => by rw [zpr_at]; unfold zfll; rw [if_pos ⟨t0, t1⟩], fun b b1 b2 => by rw [zpr_ne b2, ← hq, zpr_ne b1]⟩
  simp only [s147_0, s147_1, s147_2, s147_5, s147_6, s147_9, s147_10, s147_13, zps_0, zps_1, zps_2, zps_3, zps_9, Option.bind_some, Option.bind_none, Int.reduceEq, Int.reduceNe, Int.reduceLT, Int.reduceLE, Int.reduceNeg, Int.reduceAdd, Int.reduceSub, Int.reduceMul, reduceIte, if_true, if_false, true_and, and_true, false_and, and_false, or_true, true_or, or_false, false_or, not_true_eq_false, not_false_eq_true, ite_not, z_b0, z_b1, z_b01, rWK0 hWK, rWK1 hWK, rWK2 hWK, rWK3 hWK, rWK4 hWK, rWK5 hWK, rWK6 hWK, rWK7 hWK, rWK8 hWK, kWK0, kWK1, kWK2, kWK3, kWK4, kWK5, kWK6, kWK7, kWK8, kWK9, kWK10, kWK11, kWK12, kWK13, kWK14, kWK15, kWK16, zup_zpr, hq, F]
theorem tz_tforget (hPK : PK R) : ∃ a, ev 132 0 [(2, 79)] [] R m = some ((9, 0), R, a) ∧ a 79 = zrw (zrw (m 79) 1 0) 4 (-1) ∧ ∀ b, b ≠ 79 → a b = m b := by
  refine ⟨zpr m 79 (zrw (zrw (m 79) 1 0) 4 (-1)), ?_, zpr_at _ _ _, fun b hb => zpr_ne hb⟩
  simp only [s132_0, s132_1, s132_2, s132_5, s132_6, s132_7, s132_10, zps_0, zps_1, zps_2, zps_3, zps_9, Option.bind_some, Option.bind_none, Int.reduceEq, Int.reduceNe, Int.reduceLT, Int.reduceLE, Int.reduceNeg, Int.reduceAdd, Int.reduceSub, Int.reduceMul, reduceIte, if_true, if_false, true_and, and_true, false_and, and_false, or_true, true_or, or_false, false_or, not_true_eq_false, not_false_eq_true, ite_not, z_b0, z_b1, z_b01, rPK0 hPK, rPK1 hPK, rPK2 hPK, rPK3 hPK, rPK4 hPK, rPK5 hPK, rPK6 hPK, rPK7 hPK, kPK0, kPK1, kPK2, kPK3, kPK4, kPK5, kPK6, kPK7, kPK8, kPK9, kPK10, kPK11, kPK12, kPK13, kPK14, zup_zpr, zpr_at, zpr_zpr]
theorem top_board (v u : Int) : Top 181 228 [(0, v), (0, u)] [(0, v), (0, u)] := by
  intro R m S0 K h hK0 hK
  have h' := h
  obtain ⟨hRT, hA, hT, hKA, hPA, hTP, hWT, hWL, ⟨ntr, hTR⟩, ⟨npl, hPL⟩, hNT, hSH⟩ := h'
  obtain ⟨hT2, hT30, hL68, hGK, hAK, hXK, hWK, hPK, hQK, hNK, hCK, hM⟩ := hRT.1
  have W1 := tz_within v 1 8 R m
  have W2 := tz_within u 1 8 R m
  by_cases hv : 1 ≤ v ∧ v ≤ 8
  · rw [if_pos hv] at W1
    by_cases hu : 1 ≤ u ∧ u ≤ 8
    · rw [if_pos hu] at W2
      have hC := hKA.1
      obtain ⟨m1, G1, hTB⟩ := tz_tbegin (R := R) (m := m) hT2 hv hu ⟨hC.1, by have := hC.2; show m 3 3 < 2000000000; omega⟩ ⟨(TR_TG hT).2.1, (TR_TG hT).1⟩
      have r1 : ∀ b, (b < 2 ∨ b = 10 ∨ 11 < b) → m1 b = m b := fun b hb => hTB.1 b (by simp only [List.mem_cons, List.not_mem_nil, or_false]; omega)
      have c3 : m1 3 3 = m 3 3 + 1 := hTB.2.2.1
      obtain ⟨a1, A1, a1e, a1o⟩ := tz_aforget (m := m1) hAK
      obtain ⟨a2, A2, a2e, a2z, a2o⟩ := tz_wforget (m := a1) hWK
      obtain ⟨a3, A3, a3e, a3o⟩ := tz_tforget (m := a2) hPK
      obtain ⟨x, hx⟩ : ∃ x, zpr (zpr a3 87 (zrw (a3 87) 0 0)) 91 (zrw (zpr a3 87 (zrw (a3 87) 0 0) 91) 0 0) = x := ⟨_, rfl⟩
      have x91 : x 91 = zrw (m 91) 0 0 := by rw [← hx, zpr_at, zpr_ne (by decide), a3o 91 (by decide), a2o 91 (by decide) (by decide), a1o 91 (by decide), r1 91 (by omega)]
      have x87 : x 87 = zrw (m 87) 0 0 := by rw [← hx, zpr_ne (by decide), zpr_at, a3o 87 (by decide), a2o 87 (by decide) (by decide), a1o 87 (by decide), r1 87 (by omega)]
      have x79 : x 79 = zrw (zrw (m 79) 1 0) 4 (-1) := by rw [← hx, zpr_ne (by decide), zpr_ne (by decide), a3e, a2o 79 (by decide) (by decide), a1o 79 (by decide), r1 79 (by omega)]
      have x70 : x 70 = zrw (m 70) 1 0 := by rw [← hx, zpr_ne (by decide), zpr_ne (by decide), a3o 70 (by decide), a2e, a1o 70 (by decide), r1 70 (by omega)]
      have x72 : ∀ t, 0 ≤ t → t < 4 → x 72 t = 0 := fun t t0 t1 => by rw [← hx, zpr_ne (by decide), zpr_ne (by decide), a3o 72 (by decide)]; exact a2z t t0 t1
      have x58 : x 58 = zrw (m 58) 0 0 := by rw [← hx, zpr_ne (by decide), zpr_ne (by decide), a3o 58 (by decide), a2o 58 (by decide) (by decide), a1e, r1 58 (by omega)]
      have xo : ∀ b, b ≠ 58 → b ≠ 70 → b ≠ 72 → b ≠ 79 → b ≠ 87 → b ≠ 91 → x b = m1 b := fun b b1 b2 b3 b4 b5 b6 => by rw [← hx, zpr_ne b6, zpr_ne b5, a3o b b4, a2o b b2 b3, a1o b b1]
      have x100 : x 100 = m 100 := by rw [xo 100 (by decide) (by decide) (by decide) (by decide) (by decide) (by decide), r1 100 (by omega)]
      obtain ⟨w, hw⟩ : ∃ w, zpr x 100 (zrw (zrw (x 100) 0 v) 1 u) = w := ⟨_, rfl⟩
      have G2 := tz_mclear (R := R) (w := w) hM
      have w100 : w 100 = zrw (zrw (m 100) 0 v) 1 u := by rw [← hw, zpr_at, x100]
      have w0 : w 100 0 = v := by rw [w100, zrw_ne (by decide), zrw_at]
      have w1 : w 100 1 = u := by rw [w100, zrw_at]
      have xT0 : TR m1 (zmclr w) 2 := TR_begin hTB w0 w1
      obtain ⟨c, hc⟩ : ∃ c, zmclr w = c := ⟨_, rfl⟩
      have co : ∀ b, b ≠ 100 → b ≠ 101 → b ≠ 102 → b ≠ 103 → b ≠ 104 → c b = x b := fun b b0 b1 b2 b3 b4 => by rw [← hc]; unfold zmclr; rw [zpr_ne b0, zpr_ne b4, zpr_ne b3, zpr_ne b2, zpr_ne b1, ← hw, zpr_ne b0]
      have c100 : c 100 = zrw (zrw (zrw (zrw (w 100) 6 0) 7 0) 8 0) 10 0 := by rw [← hc]; unfold zmclr; rw [zpr_at]
      rw [hc] at G2 xT0
      obtain ⟨z, hz⟩ : ∃ z, zpr c 100 (zrw (zrw (zrw (zrw (zrw (c 100) 19 0) 51 0) 62 0) 67 0) 71 0) = z := ⟨_, rfl⟩
      have z100 : z 100 = zrw (zrw (zrw (zrw (zrw (c 100) 19 0) 51 0) 62 0) 67 0) 71 0 := by rw [← hz, zpr_at]
      have zk : ∀ k, k ≠ 19 → k ≠ 51 → k ≠ 62 → k ≠ 67 → k ≠ 71 → z 100 k = c 100 k := fun k k1 k2 k3 k4 k5 => by rw [z100, zrw_ne k5, zrw_ne k4, zrw_ne k3, zrw_ne k2, zrw_ne k1]
      have z10 : z 100 10 = 0 := by rw [zk 10 (by decide) (by decide) (by decide) (by decide) (by decide), c100, zrw_at]
      have z6 : z 100 6 = 0 := by rw [zk 6 (by decide) (by decide) (by decide) (by decide) (by decide), c100, zrw_ne (by decide), zrw_ne (by decide), zrw_ne (by decide), zrw_at]
      have z19 : z 100 19 = 0 := by rw [z100, zrw_ne (by decide), zrw_ne (by decide), zrw_ne (by decide), zrw_ne (by decide), zrw_at]
      have z51 : z 100 51 = 0 := by rw [z100, zrw_ne (by decide), zrw_ne (by decide), zrw_ne (by decide), zrw_at]
      have z62 : z 100 62 = 0 := by rw [z100, zrw_ne (by decide), zrw_ne (by decide), zrw_at]
      have z67 : z 100 67 = 0 := by rw [z100, zrw_ne (by decide), zrw_at]
      have z71 : z 100 71 = 0 := by rw [z100, zrw_at]
      have zo : ∀ b, b ≠ 100 → b ≠ 101 → b ≠ 102 → b ≠ 103 → b ≠ 104 → z b = x b := fun b b0 b1 b2 b3 b4 => by rw [← hz, zpr_ne b0, co b b0 b1 b2 b3 b4]
      have zm : ∀ b, b = 10 ∨ (11 < b ∧ b < 58) ∨ (58 < b ∧ b < 70) ∨ b = 71 ∨ (72 < b ∧ b < 79) ∨ (79 < b ∧ b < 87) ∨ (87 < b ∧ b < 91) ∨ (91 < b ∧ b < 100) ∨ 104 < b → z b = m b := fun b hb => by rw [zo b (by omega) (by omega) (by omega) (by omega) (by omega), xo b (by omega) (by omega) (by omega) (by omega) (by omega) (by omega), r1 b (by omega)]
      have ck : ∀ k, k ≠ 0 → k ≠ 1 → k ≠ 6 → k ≠ 7 → k ≠ 8 → k ≠ 10 → c 100 k = m 100 k := fun k k0 k1 k6 k7 k8 k10 => by rw [c100, zrw_ne k10, zrw_ne k8, zrw_ne k7, zrw_ne k6, w100, zrw_ne k1, zrw_ne k0]
      have z33 : z 3 3 = m 3 3 + 1 := by rw [zo 3 (by decide) (by decide) (by decide) (by decide) (by decide), xo 3 (by decide) (by decide) (by decide) (by decide) (by decide) (by decide), c3]
      have z23 : z 2 3 = 0 := by
        rw [zo 2 (by decide) (by decide) (by decide) (by decide) (by decide), xo 2 (by decide) (by decide) (by decide) (by decide) (by decide) (by decide), hTB.2.2.2.1, zrw_ne (by decide), zrw_at]
      have z58 : z 58 0 = 0 := by rw [zo 58 (by decide) (by decide) (by decide) (by decide) (by decide), x58, zrw_at]
      have z70 : z 70 = zrw (m 70) 1 0 := by rw [zo 70 (by decide) (by decide) (by decide) (by decide) (by decide), x70]
      have z72 : ∀ t, 0 ≤ t → t < 4 → z 72 t = 0 := fun t t0 t1 => by rw [zo 72 (by decide) (by decide) (by decide) (by decide) (by decide)]; exact x72 t t0 t1
      have z79 : z 79 = zrw (zrw (m 79) 1 0) 4 (-1) := by rw [zo 79 (by decide) (by decide) (by decide) (by decide) (by decide), x79]
      have z87 : z 87 0 = 0 := by rw [zo 87 (by decide) (by decide) (by decide) (by decide) (by decide), x87, zrw_at]
      have z91 : z 91 0 = 0 := by rw [zo 91 (by decide) (by decide) (by decide) (by decide) (by decide), x91, zrw_at]
      have zT : TR z z 2 := TR_c (fun a a0 a1 => by rw [zo a (by omega) (by omega) (by omega) (by omega) (by omega), xo a (by omega) (by omega) (by omega) (by omega) (by omega) (by omega)]) ⟨fun a a0 a1 => by rw [← hz, zpr_ne (by omega)], zk 0 (by decide) (by decide) (by decide) (by decide) (by decide), zk 1 (by decide) (by decide) (by decide) (by decide) (by decide), zk 6 (by decide) (by decide) (by decide) (by decide) (by decide), zk 7 (by decide) (by decide) (by decide) (by decide) (by decide), zk 8 (by decide) (by decide) (by decide) (by decide) (by decide), zk 10 (by decide) (by decide) (by decide) (by decide) (by decide)⟩ xT0
      have zA : ARl R z z := by
        unfold ARl
        rw [z19, z58, z10]
        exact ⟨⟨by omega, by omega⟩, rfl, fun a _ _ => by omega, fun a b _ _ _ => by omega, by unfold zc3; rfl, fun a _ _ => by omega⟩
      have e0 : ((0 : Nat) : Int) = 0 := rfl
      refine ⟨1, R, x, z, ?_, ?_, ⟨hRT, zA, zT, ?_, ?_, ?_, ?_, ?_, ⟨0, ?_⟩, ⟨0, ?_⟩, ?_, ?_⟩, fun _ _ _ => rfl⟩
      · simp only [s181_0, s181_1, s181_2, s181_4, s181_7, s181_10, s181_11, s181_12, s181_14, s181_17, s181_20, s181_21, s181_22, s181_23, s181_26, s181_27, s181_28, s181_31, s181_32, s181_35, s181_38, s181_39, s181_42, s181_45, s181_46, s181_49, s181_52, s181_53, s181_56, s181_57, s181_60, s181_61, s181_64, s181_65, s181_68, s181_69, zps_0, zps_1, zps_2, zps_3, zps_9, Option.bind_some, Option.bind_none, Int.reduceEq, Int.reduceNe, Int.reduceLT, Int.reduceLE, Int.reduceNeg, Int.reduceAdd, Int.reduceSub, Int.reduceMul, reduceIte, if_true, if_false, true_and, and_true, false_and, and_false, or_true, true_or, or_false, false_or, not_true_eq_false, not_false_eq_true, ite_not, z_b0, z_b1, z_b01, rGK0 hGK, rGK1 hGK, rGK2 hGK, rGK3 hGK, rGK4 hGK, rGK5 hGK, rGK6 hGK, rGK7 hGK, rGK8 hGK, rGK9 hGK, kGK0, kd2, kd3, kd9, kd11, r2_0 hT2, r2_1 hT2, r2_2 hT2, kAK0, rWK0 hWK, rWK1 hWK, rWK2 hWK, rWK3 hWK, rWK4 hWK, rWK5 hWK, rWK6 hWK, rWK7 hWK, rWK8 hWK, kWK0, kWK1, kWK2, kWK3, kWK4, kWK5, kWK6, kWK7, kWK8, kWK9, kWK10, kWK11, kWK12, kWK13, kWK14, kWK15, kWK16, rPK0 hPK, rPK1 hPK, rPK2 hPK, rPK3 hPK, rPK4 hPK, rPK5 hPK, rPK6 hPK, rPK7 hPK, kPK0, kPK1, kPK2, kPK3, kPK4, kPK5, kPK6, kPK7, kPK8, kPK9, kPK10, kPK11, kPK12, kPK13, kPK14, W1, W2, G1, A1, A2, A3, zup_zpr, rQK0 hQK, rQK1 hQK, rQK2 hQK, kQK0, kQK1, kQK2, kQK3, kQK4, kQK5, kQK6, rNK0 hNK, rNK1 hNK, rNK2 hNK, rNK3 hNK, kNK0, kNK1, kNK2, kNK3, kNK4, kNK5, kNK6, kNK7, kNK8, hx, if_true, if_false]
      · simp only [s228_0, s228_1, s228_2, s228_3, s228_6, s228_9, s228_12, s228_13, s228_14, s228_15, s228_18, s228_21, s228_24, s228_25, s228_26, s228_27, s228_28, s228_31, s228_32, s228_33, s228_36, s228_37, s228_40, s228_41, s228_42, s228_45, s228_46, s228_47, s228_50, s228_51, s228_52, s228_55, s228_56, s228_57, s228_60, s228_61, s228_62, s228_65, s228_66, zps_0, zps_1, zps_2, zps_3, zps_9, Option.bind_some, Option.bind_none, Int.reduceEq, Int.reduceNe, Int.reduceLT, Int.reduceLE, Int.reduceNeg, Int.reduceAdd, Int.reduceSub, Int.reduceMul, reduceIte, if_true, if_false, true_and, and_true, false_and, and_false, or_true, true_or, or_false, false_or, not_true_eq_false, not_false_eq_true, ite_not, z_b0, z_b1, z_b01, rMK0 hM, rMK1 hM, rMK2 hM, rMK3 hM, rMK4 hM, rMK5 hM, rMK6 hM, rMK7 hM, rMK8 hM, rMK9 hM, rMK10 hM, rMK11 hM, rMK12 hM, rMK13 hM, rMK14 hM, rMK15 hM, rMK16 hM, rMK17 hM, rMK18 hM, rMK19 hM, rMK20 hM, rMK21 hM, rMK22 hM, rMK23 hM, rMK24 hM, rMK25 hM, rMK26 hM, rMK27 hM, rMK28 hM, rMK29 hM, rMK30 hM, rMK31 hM, rMK32 hM, rMK33 hM, rMK34 hM, rMK35 hM, rMK36 hM, rMK37 hM, rMK38 hM, rMK39 hM, rMK40 hM, rMK41 hM, rMK42 hM, rMK43 hM, rMK44 hM, rMK45 hM, rMK46 hM, rMK47 hM, rMK48 hM, rMK49 hM, rMK50 hM, rMK51 hM, kMK0, kMK1, kMK2, kMK3, kMK4, kMK5, kMK6, kMK7, kMK8, kMK9, kMK10, kMK11, kMK12, kMK13, kMK14, kMK15, kMK16, kMK17, kMK18, kMK19, kMK20, kMK21, kMK22, kMK23, kMK24, kMK25, kMK26, kMK27, kMK28, kMK29, kMK30, kMK31, kMK32, kMK33, kMK34, kMK35, kMK36, kMK37, kMK38, kMK39, kMK40, kMK41, kMK42, kMK43, kMK44, kMK45, kMK46, kMK47, kMK48, kMK49, kMK50, kMK51, kMK52, kMK53, kMK54, kMK55, kMK56, kMK57, kMK58, kMK59, kMK60, kMK61, kMK62, kMK63, kMK64, kMK65, kMK66, kMK67, kMK68, kMK69, kMK70, kMK71, kMK72, kMK73, kMK74, kMK75, kMK76, kMK77, kMK78, kMK79, kMK80, kMK81, kMK82, kMK83, kMK84, kMK85, kMK86, kMK87, kMK88, kMK89, kMK90, kMK91, kMK92, kMK93, kMK94, kMK95, kMK96, kMK97, kMK98, kMK99, kMK100, kMK101, kMK102, kMK103, kMK104, tz_in, hv, hu, and_self, zup_zpr, zpr_at, zpr_zpr, hw, G2, hz, if_true, if_false]
      · exact KAn_up (by omega) (fun b b0 b1 => zm b (by omega)) hKA
      · unfold PAs
        rw [z23]
        exact ⟨fun y p y0 y1 _ _ => by omega, fun y i y0 y1 _ _ => by omega⟩
      · exact TPe_c (by rw [zm 63 (by omega)]) (by rw [zm 63 (by omega)]) (zm 64 (by omega)) (by rw [zk 27 (by decide) (by decide) (by decide) (by decide) (by decide), ck 27 (by decide) (by decide) (by decide) (by decide) (by decide) (by decide)]) (by rw [zk 28 (by decide) (by decide) (by decide) (by decide) (by decide), ck 28 (by decide) (by decide) (by decide) (by decide) (by decide) (by decide)]) (zm 120 (by omega)) (zm 122 (by omega)) (zm 123 (by omega)) hTP
      · refine ⟨⟨by rw [z70, zrw_at, z51], by omega, by omega⟩, fun t t0 t1 => by rw [z72 t t0 t1, z51, if_neg (by omega)], fun t t0 t1 => by omega, fun a a0 a1 a2 => ?_⟩
        rw [z72 (a / 6) (by omega) (by omega)] at a2
        omega
      · exact WLd_up (by omega) (by rw [z70, zrw_ne (by decide)]) (zm 75 (by omega)) hWL
      · refine ⟨⟨by rw [z79, zrw_ne (by decide), zrw_at, e0], by omega, fun t t0 t1 => by omega, fun t t0 t1 => by omega⟩, by rw [z62, e0], by rw [z79, zrw_at]; omega, ?_, fun e => ?_⟩
        · rw [z79, zrw_ne (by decide), zrw_ne (by decide)]
          have := hTR.2.2.2.1
          omega
        · rw [z79, zrw_at] at e
          omega
      · exact ⟨⟨by rw [z87, e0], by omega, fun k k0 k1 => by omega⟩, ⟨by rw [z67, e0], by omega, fun k k0 k1 => by omega⟩, fun k k0 k1 => by omega⟩
      · exact ⟨by rw [z91, z71], by omega, fun k k0 k1 => by omega⟩
      · exact SHe_c (fun b b0 b1 => zm b (by omega)) (fun b b0 b1 => zm b (by omega)) hSH
    · rw [if_neg hu] at W2
      refine ⟨-1, R, m, m, ?_, ?_, Rel_K h (by omega), fun _ _ _ => rfl⟩
      · simp only [s181_0, s181_1, s181_2, s181_4, s181_7, s181_10, s181_11, s181_12, s181_14, s181_17, s181_20, s181_21, s181_22, s181_23, s181_26, s181_27, s181_28, s181_31, s181_32, s181_35, s181_38, s181_39, s181_42, s181_45, s181_46, s181_49, s181_52, s181_53, s181_56, s181_57, s181_60, s181_61, s181_64, s181_65, s181_68, s181_69, zps_0, zps_1, zps_2, zps_3, zps_9, Option.bind_some, Option.bind_none, Int.reduceEq, Int.reduceNe, Int.reduceLT, Int.reduceLE, Int.reduceNeg, Int.reduceAdd, Int.reduceSub, Int.reduceMul, reduceIte, if_true, if_false, true_and, and_true, false_and, and_false, or_true, true_or, or_false, false_or, not_true_eq_false, not_false_eq_true, ite_not, z_b0, z_b1, z_b01, W1, W2, if_true, if_false]
      · simp only [s228_0, s228_1, s228_2, s228_3, s228_6, s228_9, s228_12, s228_13, s228_14, s228_15, s228_18, s228_21, s228_24, s228_25, s228_26, s228_27, s228_28, s228_31, s228_32, s228_33, s228_36, s228_37, s228_40, s228_41, s228_42, s228_45, s228_46, s228_47, s228_50, s228_51, s228_52, s228_55, s228_56, s228_57, s228_60, s228_61, s228_62, s228_65, s228_66, zps_0, zps_1, zps_2, zps_3, zps_9, Option.bind_some, Option.bind_none, Int.reduceEq, Int.reduceNe, Int.reduceLT, Int.reduceLE, Int.reduceNeg, Int.reduceAdd, Int.reduceSub, Int.reduceMul, reduceIte, if_true, if_false, true_and, and_true, false_and, and_false, or_true, true_or, or_false, false_or, not_true_eq_false, not_false_eq_true, ite_not, z_b0, z_b1, z_b01, rMK0 hM, rMK1 hM, rMK2 hM, rMK3 hM, rMK4 hM, rMK5 hM, rMK6 hM, rMK7 hM, rMK8 hM, rMK9 hM, rMK10 hM, rMK11 hM, rMK12 hM, rMK13 hM, rMK14 hM, rMK15 hM, rMK16 hM, rMK17 hM, rMK18 hM, rMK19 hM, rMK20 hM, rMK21 hM, rMK22 hM, rMK23 hM, rMK24 hM, rMK25 hM, rMK26 hM, rMK27 hM, rMK28 hM, rMK29 hM, rMK30 hM, rMK31 hM, rMK32 hM, rMK33 hM, rMK34 hM, rMK35 hM, rMK36 hM, rMK37 hM, rMK38 hM, rMK39 hM, rMK40 hM, rMK41 hM, rMK42 hM, rMK43 hM, rMK44 hM, rMK45 hM, rMK46 hM, rMK47 hM, rMK48 hM, rMK49 hM, rMK50 hM, rMK51 hM, kMK0, kMK1, kMK2, kMK3, kMK4, kMK5, kMK6, kMK7, kMK8, kMK9, kMK10, kMK11, kMK12, kMK13, kMK14, kMK15, kMK16, kMK17, kMK18, kMK19, kMK20, kMK21, kMK22, kMK23, kMK24, kMK25, kMK26, kMK27, kMK28, kMK29, kMK30, kMK31, kMK32, kMK33, kMK34, kMK35, kMK36, kMK37, kMK38, kMK39, kMK40, kMK41, kMK42, kMK43, kMK44, kMK45, kMK46, kMK47, kMK48, kMK49, kMK50, kMK51, kMK52, kMK53, kMK54, kMK55, kMK56, kMK57, kMK58, kMK59, kMK60, kMK61, kMK62, kMK63, kMK64, kMK65, kMK66, kMK67, kMK68, kMK69, kMK70, kMK71, kMK72, kMK73, kMK74, kMK75, kMK76, kMK77, kMK78, kMK79, kMK80, kMK81, kMK82, kMK83, kMK84, kMK85, kMK86, kMK87, kMK88, kMK89, kMK90, kMK91, kMK92, kMK93, kMK94, kMK95, kMK96, kMK97, kMK98, kMK99, kMK100, kMK101, kMK102, kMK103, kMK104, tz_in, hv, hu, and_self, if_true, if_false]
  · rw [if_neg hv] at W1
    refine ⟨-1, R, m, m, ?_, ?_, Rel_K h (by omega), fun _ _ _ => rfl⟩
    · simp only [s181_0, s181_1, s181_2, s181_4, s181_7, s181_10, s181_11, s181_12, s181_14, s181_17, s181_20, s181_21, s181_22, s181_23, s181_26, s181_27, s181_28, s181_31, s181_32, s181_35, s181_38, s181_39, s181_42, s181_45, s181_46, s181_49, s181_52, s181_53, s181_56, s181_57, s181_60, s181_61, s181_64, s181_65, s181_68, s181_69, zps_0, zps_1, zps_2, zps_3, zps_9, Option.bind_some, Option.bind_none, Int.reduceEq, Int.reduceNe, Int.reduceLT, Int.reduceLE, Int.reduceNeg, Int.reduceAdd, Int.reduceSub, Int.reduceMul, reduceIte, if_true, if_false, true_and, and_true, false_and, and_false, or_true, true_or, or_false, false_or, not_true_eq_false, not_false_eq_true, ite_not, z_b0, z_b1, z_b01, W1, if_true, if_false]
    · simp only [s228_0, s228_1, s228_2, s228_3, s228_6, s228_9, s228_12, s228_13, s228_14, s228_15, s228_18, s228_21, s228_24, s228_25, s228_26, s228_27, s228_28, s228_31, s228_32, s228_33, s228_36, s228_37, s228_40, s228_41, s228_42, s228_45, s228_46, s228_47, s228_50, s228_51, s228_52, s228_55, s228_56, s228_57, s228_60, s228_61, s228_62, s228_65, s228_66, zps_0, zps_1, zps_2, zps_3, zps_9, Option.bind_some, Option.bind_none, Int.reduceEq, Int.reduceNe, Int.reduceLT, Int.reduceLE, Int.reduceNeg, Int.reduceAdd, Int.reduceSub, Int.reduceMul, reduceIte, if_true, if_false, true_and, and_true, false_and, and_false, or_true, true_or, or_false, false_or, not_true_eq_false, not_false_eq_true, ite_not, z_b0, z_b1, z_b01, rMK0 hM, rMK1 hM, rMK2 hM, rMK3 hM, rMK4 hM, rMK5 hM, rMK6 hM, rMK7 hM, rMK8 hM, rMK9 hM, rMK10 hM, rMK11 hM, rMK12 hM, rMK13 hM, rMK14 hM, rMK15 hM, rMK16 hM, rMK17 hM, rMK18 hM, rMK19 hM, rMK20 hM, rMK21 hM, rMK22 hM, rMK23 hM, rMK24 hM, rMK25 hM, rMK26 hM, rMK27 hM, rMK28 hM, rMK29 hM, rMK30 hM, rMK31 hM, rMK32 hM, rMK33 hM, rMK34 hM, rMK35 hM, rMK36 hM, rMK37 hM, rMK38 hM, rMK39 hM, rMK40 hM, rMK41 hM, rMK42 hM, rMK43 hM, rMK44 hM, rMK45 hM, rMK46 hM, rMK47 hM, rMK48 hM, rMK49 hM, rMK50 hM, rMK51 hM, kMK0, kMK1, kMK2, kMK3, kMK4, kMK5, kMK6, kMK7, kMK8, kMK9, kMK10, kMK11, kMK12, kMK13, kMK14, kMK15, kMK16, kMK17, kMK18, kMK19, kMK20, kMK21, kMK22, kMK23, kMK24, kMK25, kMK26, kMK27, kMK28, kMK29, kMK30, kMK31, kMK32, kMK33, kMK34, kMK35, kMK36, kMK37, kMK38, kMK39, kMK40, kMK41, kMK42, kMK43, kMK44, kMK45, kMK46, kMK47, kMK48, kMK49, kMK50, kMK51, kMK52, kMK53, kMK54, kMK55, kMK56, kMK57, kMK58, kMK59, kMK60, kMK61, kMK62, kMK63, kMK64, kMK65, kMK66, kMK67, kMK68, kMK69, kMK70, kMK71, kMK72, kMK73, kMK74, kMK75, kMK76, kMK77, kMK78, kMK79, kMK80, kMK81, kMK82, kMK83, kMK84, kMK85, kMK86, kMK87, kMK88, kMK89, kMK90, kMK91, kMK92, kMK93, kMK94, kMK95, kMK96, kMK97, kMK98, kMK99, kMK100, kMK101, kMK102, kMK103, kMK104, tz_in, hv, if_true, if_false]
end BOARDX
