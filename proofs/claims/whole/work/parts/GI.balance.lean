/-! balance -/
section BALX
variable {R m x y w z : zM} {p q t u S0 K Y to a b : Int} {n : Nat}
/-- the trips settle on both sides -/
theorem tz_settleB (h : Rel R m S0 K) : ∃ (n : Nat) (x y : zM) (r : Int × (Bool × zTS)), tRs m n 40 0 (tIn m n) = r ∧ m 79 1 = n ∧ n ≤ 8 ∧ ev 134 0 [(2, 79), (9, 0)] [] R m = some ((9, 0), R, x) ∧ TDr x m n r ∧ x 79 1 = n ∧ (∀ b, b < 70 ∨ b = 71 ∨ b = 72 ∨ b = 80 ∨ b = 81 ∨ 86 < b → x b = m b) ∧ ev 300 0 [(2, 100), (9, 0), (9, 0), (9, 0), (9, 0)] [] R x = some ((0, if r.2.1 = true then -6 else r.1), R, y) ∧ MTs x y n r.2.2 ∧ TFt m n ∧ (∀ v : zM, (∀ b, b ≠ 100 → b < 133 ∨ (138 < b ∧ b ≠ 141 ∧ b ≠ 142) → v b = x b) → (∀ k, k ≠ 56 → k ≠ 58 → v 100 k = m 100 k) → Rel R v S0 (K + 1)) := by
  have h' := h
  obtain ⟨hRT, hA, hT, hKA, hPA, hTP, hWT, hWL, ⟨ntr, hTR⟩, ⟨npl, hPL⟩, hNT, hSH⟩ := h'
  obtain ⟨hT2, hT30, hL68, hGK, hAK, hXK, hWK, hPK, hQK, hNK, hCK, hM⟩ := hRT.1
  obtain ⟨hP, q62, ⟨q4a, q4b⟩, q5, qd⟩ := hTR
  have hW := WRs_of hT hWT
  have hV := hT.1.2.1
  obtain ⟨x, E1, qs, td, ⟨x4, x5⟩, xl, xc⟩ := tz_psettle hPK hWK (TK_B3 hT2) hW hP hWL.2.1 hWL.2.2 qd
  obtain ⟨p1, p2, p3, p4⟩ := hP
  have xb : ∀ b, b < 70 ∨ b = 71 ∨ b = 72 ∨ b = 80 ∨ b = 81 ∨ 86 < b → x b = m b := fun b hb => qs.1 b (by omega) (by omega) (by omega) (by omega) (by omega) (by omega) (by omega) (by omega) (by omega) (by omega) (by omega) (by omega) (by omega)
  have x100 : x 100 = m 100 := xb 100 (by omega)
  have xV : MV x := by unfold MV mN; rw [x100, xb 101 (by omega), xb 102 (by omega), xb 103 (by omega)]; exact hV
  have xF : TFt x ntr := by unfold TFt; rw [xb 139 (by omega), xb 140 (by omega)]; exact p3
  have qq : zqT ntr m x := ⟨by rw [x100]; exact ⟨rfl, rfl⟩, fun p _ _ => by rw [xb 101 (by omega), xb 102 (by omega)]; exact ⟨rfl, rfl⟩, fun t _ _ => by rw [xb 139 (by omega), xb 140 (by omega)]; exact ⟨rfl, rfl⟩⟩
  have ok := tIn_ok hV p3 ntr (Nat.le_refl _)
  have eT : tRs x ntr 40 0 (tIn x ntr) = tRs m ntr 40 0 (tIn m ntr) := by rw [tIn_c hV p3 qq ntr (Nat.le_refl _), tRs_c hV p3 p2 qq 40 0 (tIn m ntr) ok]
  obtain ⟨y, E2, ms⟩ := tz_mlayTrips (R := R) hM xV xF p2 (by rw [x100]; exact q62)
  rw [eT] at E2 ms
  obtain ⟨r, hr⟩ : ∃ r, tRs m ntr 40 0 (tIn m ntr) = r := ⟨_, rfl⟩
  rw [hr] at E2 ms td
  have l7 : x 70 7 ≤ x 3 3 := by
    rw [xb 3 (by omega)]
    rcases qs.2.2.2 with q | q
    · rw [q]; exact hWL.1
    · rw [q]; exact Int.le_refl _
  refine ⟨ntr, x, y, r, hr, p1, p2, E1, td, by rw [qs.2.2.1 1 (by decide) (by decide) (by decide) (by decide)]; exact p1, xb, E2, ms, p3, fun v vb vk => ?_⟩
  have vx : ∀ b, b < 100 → v b = x b := fun b hb => vb b (by omega) (by omega)
  have v139 : v 139 = m 139 := by rw [vb 139 (by decide) (by omega), xb 139 (by omega)]
  have v140 : v 140 = m 140 := by rw [vb 140 (by decide) (by omega), xb 140 (by omega)]
  have v80 : v 80 = m 80 := by rw [vx 80 (by decide), xb 80 (by omega)]
  have v81 : v 81 = m 81 := by rw [vx 81 (by decide), xb 81 (by omega)]
  have v33 : v 3 = m 3 := by rw [vx 3 (by decide), xb 3 (by omega)]
  have qv : zqT ntr m v := ⟨⟨vk 0 (by decide) (by decide), vk 1 (by decide) (by decide)⟩, fun p _ _ => by rw [vb 101 (by decide) (by omega), vb 102 (by decide) (by omega), xb 101 (by omega), xb 102 (by omega)]; exact ⟨rfl, rfl⟩, fun t _ _ => by rw [v139, v140]; exact ⟨rfl, rfl⟩⟩
  refine Rel_way2 h ⟨by rw [vx 70 (by decide), vx 3 (by decide)]; exact l7, fun e => ?_, by rw [vx 75 (by decide)]; exact xc⟩ ⟨ntr, ⟨by rw [vx 79 (by decide), qs.2.2.1 1 (by decide) (by decide) (by decide) (by decide)]; exact p1, p2, by unfold TFt; rw [v139, v140]; exact p3, fun t t0 t1 => by rw [v80, v81, v139, v140]; exact p4 t t0 t1⟩, by rw [vk 62 (by decide) (by decide)]; exact q62, by rw [vx 79 (by decide), x4]; omega, by rw [vx 79 (by decide), x5, v33]; exact Int.le_refl _, fun _ _ => ?_⟩ (fun b hb => by rw [vb b (by omega) (by omega), xb b (by omega)]) (by rw [vx 70 (by decide)]; exact qs.2.1 1 (by decide) (by decide) (by decide) (by decide) (by decide)) (fun k hk => vk k (by omega) (by omega))
  · rw [vx 70 (by decide), vx 3 (by decide)] at e
    exact LDok_c (vx 3 (by decide)) (vx 4 (by decide)) (vx 5 (by decide)) (vx 73 (by decide)) (vx 74 (by decide)) (xl e)
  · rw [tIn_c hV p3 qv ntr (Nat.le_refl _), tRs_c hV p3 p2 qv 40 0 (tIn m ntr) ok, hr]
    exact TDr_c hV p3 p2 qv (by rw [vx 79 (by decide)]; exact ⟨rfl, rfl⟩) (fun b b0 b1 => vx b (by omega)) td
theorem top_balance : Top 210 299 [] [] := by
  intro R m S0 K h hK0 hK
  obtain ⟨n, x, y, r, hr, p1, p2, E1, td, x1, xb, E2, ms, p3, rel⟩ := tz_settleB h
  have h' := h
  obtain ⟨hRT, hA, hT, hKA, hPA, hTP, hWT, hWL, ⟨ntr, hTR⟩, ⟨npl, hPL⟩, hNT, hSH⟩ := h'
  obtain ⟨hT2, hT30, hL68, hGK, hAK, hXK, hWK, hPK, hQK, hNK, hCK, hM⟩ := hRT.1
  have d2 := td.1
  have d3 := td.2.1
  have ry : Rel R y S0 (K + 1) := rel y (fun b b1 b2 => ms.1.1 b b1 (by omega) (by omega) (by omega)) (fun k k1 k2 => by rw [ms.1.2 k k1 k2, xb 100 (by omega)])
  by_cases c : r.2.1 = true
  · rw [if_pos c] at d3 E2
    refine ⟨-6, R, x, y, ?_, ?_, ry, fun _ _ _ => rfl⟩
    · simp only [s210_0, s210_1, s210_4, s210_7, s210_8, s210_11, s210_14, s210_17, s210_19, s210_22, s210_23, s210_26, s210_29, zps_0, zps_1, zps_2, zps_3, zps_9, Option.bind_some, Option.bind_none, Int.reduceEq, Int.reduceNe, Int.reduceLT, Int.reduceLE, Int.reduceNeg, Int.reduceAdd, Int.reduceSub, Int.reduceMul, reduceIte, if_true, if_false, true_and, and_true, false_and, and_false, or_true, true_or, or_false, false_or, not_true_eq_false, not_false_eq_true, ite_not, z_b0, z_b1, z_b01, rGK0 hGK, rGK1 hGK, rGK2 hGK, rGK3 hGK, rGK4 hGK, rGK5 hGK, rGK6 hGK, rGK7 hGK, rGK8 hGK, rGK9 hGK, kGK0, rPK0 hPK, rPK1 hPK, rPK2 hPK, rPK3 hPK, rPK4 hPK, rPK5 hPK, rPK6 hPK, rPK7 hPK, kPK0, kPK1, kPK2, kPK3, kPK4, kPK5, kPK6, kPK7, kPK8, kPK9, kPK10, kPK11, kPK12, kPK13, kPK14, E1, d3, if_true, if_false]
    · simp only [s299_0, s299_1, s299_4, zps_0, zps_1, zps_2, zps_3, zps_9, Option.bind_some, Option.bind_none, Int.reduceEq, Int.reduceNe, Int.reduceLT, Int.reduceLE, Int.reduceNeg, Int.reduceAdd, Int.reduceSub, Int.reduceMul, reduceIte, if_true, if_false, true_and, and_true, false_and, and_false, or_true, true_or, or_false, false_or, not_true_eq_false, not_false_eq_true, ite_not, z_b0, z_b1, z_b01, rMK0 hM, rMK1 hM, rMK2 hM, rMK3 hM, rMK4 hM, rMK5 hM, rMK6 hM, rMK7 hM, rMK8 hM, rMK9 hM, rMK10 hM, rMK11 hM, rMK12 hM, rMK13 hM, rMK14 hM, rMK15 hM, rMK16 hM, rMK17 hM, rMK18 hM, rMK19 hM, rMK20 hM, rMK21 hM, rMK22 hM, rMK23 hM, rMK24 hM, rMK25 hM, rMK26 hM, rMK27 hM, rMK28 hM, rMK29 hM, rMK30 hM, rMK31 hM, rMK32 hM, rMK33 hM, rMK34 hM, rMK35 hM, rMK36 hM, rMK37 hM, rMK38 hM, rMK39 hM, rMK40 hM, rMK41 hM, rMK42 hM, rMK43 hM, rMK44 hM, rMK45 hM, rMK46 hM, rMK47 hM, rMK48 hM, rMK49 hM, rMK50 hM, rMK51 hM, kMK0, kMK1, kMK2, kMK3, kMK4, kMK5, kMK6, kMK7, kMK8, kMK9, kMK10, kMK11, kMK12, kMK13, kMK14, kMK15, kMK16, kMK17, kMK18, kMK19, kMK20, kMK21, kMK22, kMK23, kMK24, kMK25, kMK26, kMK27, kMK28, kMK29, kMK30, kMK31, kMK32, kMK33, kMK34, kMK35, kMK36, kMK37, kMK38, kMK39, kMK40, kMK41, kMK42, kMK43, kMK44, kMK45, kMK46, kMK47, kMK48, kMK49, kMK50, kMK51, kMK52, kMK53, kMK54, kMK55, kMK56, kMK57, kMK58, kMK59, kMK60, kMK61, kMK62, kMK63, kMK64, kMK65, kMK66, kMK67, kMK68, kMK69, kMK70, kMK71, kMK72, kMK73, kMK74, kMK75, kMK76, kMK77, kMK78, kMK79, kMK80, kMK81, kMK82, kMK83, kMK84, kMK85, kMK86, kMK87, kMK88, kMK89, kMK90, kMK91, kMK92, kMK93, kMK94, kMK95, kMK96, kMK97, kMK98, kMK99, kMK100, kMK101, kMK102, kMK103, kMK104, E2]
  · rw [if_neg c] at d3 E2
    refine ⟨r.1, R, x, y, ?_, ?_, ry, fun _ _ _ => rfl⟩
    · simp only [s210_0, s210_1, s210_4, s210_7, s210_8, s210_11, s210_14, s210_17, s210_19, s210_22, s210_23, s210_26, s210_29, zps_0, zps_1, zps_2, zps_3, zps_9, Option.bind_some, Option.bind_none, Int.reduceEq, Int.reduceNe, Int.reduceLT, Int.reduceLE, Int.reduceNeg, Int.reduceAdd, Int.reduceSub, Int.reduceMul, reduceIte, if_true, if_false, true_and, and_true, false_and, and_false, or_true, true_or, or_false, false_or, not_true_eq_false, not_false_eq_true, ite_not, z_b0, z_b1, z_b01, rGK0 hGK, rGK1 hGK, rGK2 hGK, rGK3 hGK, rGK4 hGK, rGK5 hGK, rGK6 hGK, rGK7 hGK, rGK8 hGK, rGK9 hGK, kGK0, rPK0 hPK, rPK1 hPK, rPK2 hPK, rPK3 hPK, rPK4 hPK, rPK5 hPK, rPK6 hPK, rPK7 hPK, kPK0, kPK1, kPK2, kPK3, kPK4, kPK5, kPK6, kPK7, kPK8, kPK9, kPK10, kPK11, kPK12, kPK13, kPK14, E1, d3, d2, if_true, if_false]
    · simp only [s299_0, s299_1, s299_4, zps_0, zps_1, zps_2, zps_3, zps_9, Option.bind_some, Option.bind_none, Int.reduceEq, Int.reduceNe, Int.reduceLT, Int.reduceLE, Int.reduceNeg, Int.reduceAdd, Int.reduceSub, Int.reduceMul, reduceIte, if_true, if_false, true_and, and_true, false_and, and_false, or_true, true_or, or_false, false_or, not_true_eq_false, not_false_eq_true, ite_not, z_b0, z_b1, z_b01, rMK0 hM, rMK1 hM, rMK2 hM, rMK3 hM, rMK4 hM, rMK5 hM, rMK6 hM, rMK7 hM, rMK8 hM, rMK9 hM, rMK10 hM, rMK11 hM, rMK12 hM, rMK13 hM, rMK14 hM, rMK15 hM, rMK16 hM, rMK17 hM, rMK18 hM, rMK19 hM, rMK20 hM, rMK21 hM, rMK22 hM, rMK23 hM, rMK24 hM, rMK25 hM, rMK26 hM, rMK27 hM, rMK28 hM, rMK29 hM, rMK30 hM, rMK31 hM, rMK32 hM, rMK33 hM, rMK34 hM, rMK35 hM, rMK36 hM, rMK37 hM, rMK38 hM, rMK39 hM, rMK40 hM, rMK41 hM, rMK42 hM, rMK43 hM, rMK44 hM, rMK45 hM, rMK46 hM, rMK47 hM, rMK48 hM, rMK49 hM, rMK50 hM, rMK51 hM, kMK0, kMK1, kMK2, kMK3, kMK4, kMK5, kMK6, kMK7, kMK8, kMK9, kMK10, kMK11, kMK12, kMK13, kMK14, kMK15, kMK16, kMK17, kMK18, kMK19, kMK20, kMK21, kMK22, kMK23, kMK24, kMK25, kMK26, kMK27, kMK28, kMK29, kMK30, kMK31, kMK32, kMK33, kMK34, kMK35, kMK36, kMK37, kMK38, kMK39, kMK40, kMK41, kMK42, kMK43, kMK44, kMK45, kMK46, kMK47, kMK48, kMK49, kMK50, kMK51, kMK52, kMK53, kMK54, kMK55, kMK56, kMK57, kMK58, kMK59, kMK60, kMK61, kMK62, kMK63, kMK64, kMK65, kMK66, kMK67, kMK68, kMK69, kMK70, kMK71, kMK72, kMK73, kMK74, kMK75, kMK76, kMK77, kMK78, kMK79, kMK80, kMK81, kMK82, kMK83, kMK84, kMK85, kMK86, kMK87, kMK88, kMK89, kMK90, kMK91, kMK92, kMK93, kMK94, kMK95, kMK96, kMK97, kMK98, kMK99, kMK100, kMK101, kMK102, kMK103, kMK104, E2]
end BALX
