/-! chosen -/
section CHOX
variable {R m x y w z : zM} {p q t u S0 K Y to a b : Int} {n : Nat}
theorem zsow_congr {n w ln y : Int} {G G' U U' L : Int → Int} (h : ∀ q, 0 ≤ q → q < n → G' q = G q ∧ U' q = U q) : zsow n w ln y G' U' L = zsow n w ln y G U L := by
  unfold zsow
  refine zsum_congr (fun p p0 p1 => ?_)
  obtain ⟨-, e⟩ := h p p0 (by omega)
  simp only [e]
  rw [zworth_congr (G := G') (G' := G) (U := U') (U' := U) h]
theorem top_chosen (B c : Int) : Top 213 307 [(0, B), (0, c)] [(0, B), (0, c), (9, 0), (9, 0), (9, 0), (9, 0), (9, 0)] := by
  intro R m S0 K h hK0 hK
  have h' := h
  obtain ⟨hRT, hA, hT, hKA, hPA, hTP, hWT, hWL, ⟨ntr, hTR⟩, ⟨npl, hPL⟩, hNT, hSH⟩ := h'
  obtain ⟨hT2, hT30, hL68, hGK, hAK, hXK, hWK, hPK, hQK, hNK, hCK, hM⟩ := hRT.1
  have W1 := tz_within B 0 999 R m
  have W2 := tz_within c 0 3 R m
  have yb := TR_y hT
  have wv := TR_w hT
  have hn := TR_n3 hT
  have n64 := MV_n hT.1.2.1
  have gu := TR_GU4 hT
  have hL := TR_ML hT
  have PM : ∀ x : zM, x 100 = m 100 → x 101 = m 101 → x 103 = m 103 → ∀ A A' E E' : Int → Int, (∀ q, 0 ≤ q → q < mN m → A' q = A q ∧ E' q = E q) → pSm x (m 9 0) (m 10) A' E' = pSW m 2 A E := by
    intro x h100 h101 h103 A A' E E' he
    have eN : mN x = mN m := by unfold mN; rw [h100]
    have e6 : x 100 6 = m 2 3 := by rw [h100, ← yb.1]
    have e0 : x 100 0 = m 3 0 := by rw [h100, ← wv.1]
    have s : pSW m 2 A E = zsow (m 3 2) (m 3 0) (m 9 0) (m 2 3) A E (m 10) := rfl
    have s2 : pSm x (m 9 0) (m 10) A' E' = zsow (mN x) (x 100 0) (m 9 0) (x 100 6) A' E' (m 10) := rfl
    rw [s, s2, eN, e6, e0, hn]
    exact zsow_congr he
  by_cases hB : 0 ≤ B ∧ B ≤ 999
  · rw [if_pos hB] at W1
    by_cases hc : 0 ≤ c ∧ c ≤ 3
    · rw [if_pos hc] at W2
      by_cases c3 : c = 3
      · have S : ev 130 0 [(2, 2), (9, 0), (9, 0), (9, 0)] [] R m = some ((0, pSW m 2 (m 4) (m 6)), R, m) := tz_tsow hT2 (TR_TG hT)
        have MC := tz_mchosen (R := R) hM hT.1.2.1 hL hPL.2.1 B c
        have d0 : ¬ c = 0 := by omega
        have d1 : ¬ c = 1 := by omega
        have d2 : ¬ c = 2 := by omega
        rw [if_pos ⟨hB, hc⟩, if_neg d0, if_neg d1, if_neg d2, PM m rfl rfl rfl (m 4) (m 101) (m 6) (m 103) (fun q q0 q1 => ⟨(gu q q0 q1).1.symm, (gu q q0 q1).2.symm⟩)] at MC
        refine ⟨pSW m 2 (m 4) (m 6), R, m, m, ?_, MC, Rel_K h (by omega), fun _ _ _ => rfl⟩
        subst c3
        simp only [s213_0, s213_1, s213_2, s213_5, s213_8, s213_11, s213_12, s213_13, s213_14, s213_17, s213_20, s213_22, s213_23, s213_24, s213_25, s213_28, s213_29, s213_32, s213_35, s213_36, s213_37, s213_40, s213_41, s213_44, s213_45, s213_48, s213_49, s213_76, s213_77, s213_80, s213_83, s213_84, s213_85, s213_88, s213_91, s213_92, s213_93, s213_96, s213_99, zps_0, zps_1, zps_2, zps_3, zps_9, Option.bind_some, Option.bind_none, Int.reduceEq, Int.reduceNe, Int.reduceLT, Int.reduceLE, Int.reduceNeg, Int.reduceAdd, Int.reduceSub, Int.reduceMul, reduceIte, if_true, if_false, true_and, and_true, false_and, and_false, or_true, true_or, or_false, false_or, not_true_eq_false, not_false_eq_true, ite_not, z_b0, z_b1, z_b01, rGK0 hGK, rGK1 hGK, rGK2 hGK, rGK3 hGK, rGK4 hGK, rGK5 hGK, rGK6 hGK, rGK7 hGK, rGK8 hGK, rGK9 hGK, kGK0, kd2, kd3, kd9, kd11, r2_0 hT2, r2_1 hT2, r2_2 hT2, W1, W2, S, if_true, if_false]
      · have hC := hKA.1
        obtain ⟨⟨q1, q2, q3⟩, q4, q7⟩ := hPL
        have pls : PLs m npl (m 3 2) := by rw [hn]; exact ⟨q1, q2, q3⟩
        obtain ⟨x, G1, ⟨f1, f2, f3, f4, f5, f6, f7⟩, x1, x2, x3⟩ := tz_plchoose (R := R) (m := m) (n := npl) hQK hT2 (TR_TG hT) (by omega) pls ⟨hC.1, by have := hC.2; show m 3 3 < 1800000000; omega⟩ B
        simp only [Int.reduceAdd] at f1 f2 f4 f5 f6 f7
        have xo : ∀ b, b ≠ 3 → b ≠ 7 → b ≠ 87 → x b = m b := f1
        have x100 := xo 100 (by decide) (by decide) (by decide)
        have x101 := xo 101 (by decide) (by decide) (by decide)
        have x103 := xo 103 (by decide) (by decide) (by decide)
        have k := fun k => pBt_c (n := npl) (SW := pSW m 2) (SW' := pSm x (m 9 0) (m 10)) (P := m 88) (P' := m 143) (Kd := m 89) (Kd' := m 144) (C := m 90) (C' := m 145) (G := m 4) (G' := m 101) (U := m 6) (U' := m 103) (N := mN m) (fun i i0 i1 => ⟨(q7 i i0 i1).1.symm, (q7 i i0 i1).2.1.symm, (q7 i i0 i1).2.2.symm, (q3 i i0 i1).1.1, (q3 i i0 i1).1.2⟩) (fun q q0 q1 => ⟨(gu q q0 q1).1.symm, (gu q q0 q1).2.symm⟩) (PM x x100 x101 x103) B k
        have hT' : TR x x 2 := by
          obtain ⟨⟨⟨b1, b2, b3⟩, b4, b5, b6, b7⟩, tw, ts, ty⟩ := hT
          have e30 : x 3 0 = m 3 0 := f2 0 (by decide)
          have e31 : x 3 1 = m 3 1 := f2 1 (by decide)
          have e32 : x 3 2 = m 3 2 := f2 2 (by decide)
          have t0 : TR m m 2 := ⟨⟨⟨b1, b2, b3⟩, b4, b5, b6, b7⟩, tw, ts, ty⟩
          refine ⟨⟨⟨f4, NV_c (o := 3) (m := m) e32 e30 (xo 8 (by decide) (by decide) (by decide)) b2, f5⟩, ?_, ?_, ?_, ?_⟩, RW_c (fun a a0 a1 => xo a (by omega) (by omega) (by omega)) (by rw [x100]) (xo 105 (by decide) (by decide) (by decide)) tw, RSe_c (fun a a0 a1 => xo a (by omega) (by omega) (by omega)) (by rw [x100]) (by rw [x100]) (by rw [x100]) x103 (xo 104 (by decide) (by decide) (by decide)) (fun a a0 a1 => xo a (by omega) (by omega) (by omega)) ts, RYr_c (by rw [xo 2 (by decide) (by decide) (by decide)]) (by rw [xo 2 (by decide) (by decide) (by decide)]) (by rw [x100]) (by rw [x100]) ty⟩
          · unfold MV mN; rw [x100, x101, xo 102 (by decide) (by decide) (by decide), x103]; exact b4
          · show x 3 0 = x 100 0
            rw [e30, x100]; exact b5
          · show x 3 1 = x 100 1
            rw [e31, x100]; exact b6
          · have eN : mN x = mN m := by unfold mN; rw [x100]
            rw [eN, x101, xo 102 (by decide) (by decide) (by decide), x103]
            intro p p0 p1
            have := b7 p p0 p1
            simp only [Int.reduceAdd] at this ⊢
            rw [xo 4 (by decide) (by decide) (by decide), xo 5 (by decide) (by decide) (by decide), xo 6 (by decide) (by decide) (by decide)]
            exact this
        have x10 := xo 10 (by decide) (by decide) (by decide)
        have x9 := xo 9 (by decide) (by decide) (by decide)
        have plm : PLm x npl := by
          unfold PLm mN
          rw [x100, xo 143 (by decide) (by decide) (by decide), xo 144 (by decide) (by decide) (by decide), xo 145 (by decide) (by decide) (by decide)]
          exact q4
        have ml : ML x (m 9 0) (m 10) := by
          have := TR_ML hT'
          rw [x9, x10] at this
          exact this
        have MC := tz_mchosen (R := R) hM hT'.1.2.1 ml plm B c
        have pw : ∀ k, pBw x (m 9 0) (m 10) npl B k = pBm m 2 npl B k := fun j => by
          have s : pBw x (m 9 0) (m 10) npl B j = pBt (pSm x (m 9 0) (m 10)) (x 143) (x 144) (x 145) (x 101) (x 103) npl B j := rfl
          have s2 : pBm m 2 npl B j = pBt (pSW m 2) (m 88) (m 89) (m 90) (m 4) (m 6) npl B j := rfl
          rw [s, s2, xo 143 (by decide) (by decide) (by decide), xo 144 (by decide) (by decide) (by decide), xo 145 (by decide) (by decide) (by decide), x101, x103]
          exact (k j).1
        rw [if_pos ⟨hB, hc⟩, pw, xo 145 (by decide) (by decide) (by decide), (k 0).2] at MC
        have rel : Rel R x S0 (K + 1) := by
          have xg : ∀ b, b < 3 ∨ (3 < b ∧ b < 7) ∨ (7 < b ∧ b < 87) ∨ 87 < b → x b = m b := fun b hb => xo b (by omega) (by omega) (by omega)
          have r33 : m 3 3 ≤ x 3 3 := f6
          refine ⟨hRT, ARl_c (fun b b0 b1 => xg b (by omega)) (by rw [xg 58 (by omega)]) (fun b b0 => xg b (by omega)) (fun b b0 => xg b (by omega)) (by rw [x100]; exact ⟨rfl, rfl, rfl, rfl, rfl⟩) hA, hT', KAn_up ⟨f6, by omega⟩ (fun b b0 b1 => xg b (by omega)) hKA, PAs_c (by rw [xg 2 (by omega)]) (xg 27 (by omega)) (xg 28 (by omega)) (xg 118 (by omega)) (xg 119 (by omega)) (by rw [x100]) (by rw [x100]) hPA, TPe_c (by rw [xg 63 (by omega)]) (by rw [xg 63 (by omega)]) (xg 64 (by omega)) (by rw [x100]) (by rw [x100]) (xg 120 (by omega)) (xg 122 (by omega)) (xg 123 (by omega)) hTP, WTr_c (by rw [xg 70 (by omega)]) (xg 71 (by omega)) (xg 72 (by omega)) (by rw [x100]) (xg 131 (by omega)) (xg 132 (by omega)) (by rw [x100]) (by rw [x100]) hWT, ?_, ⟨ntr, TRi_c hT.1.2.1 (fun b b0 b1 => xg b (by omega)) (xg 139 (by omega)) (xg 140 (by omega)) (by rw [x100]) f6 (fun _ => by rw [x100, x101, xg 102 (by omega)]; exact ⟨⟨rfl, rfl⟩, fun _ _ _ => ⟨rfl, rfl⟩⟩) hTR⟩, ⟨npl, PLa_c (fun b b0 b1 bn => xg b (by omega)) (f3 0 (by decide) (by decide) (by decide)) (xg 143 (by omega)) (xg 144 (by omega)) (xg 145 (by omega)) (by rw [x100]) (by rw [x100]) (by rw [x100]) ⟨⟨q1, q2, q3⟩, q4, q7⟩⟩, NTe_c (fun b b0 b1 => xg b (by omega)) (by rw [xg 91 (by omega)]) (by rw [x100]) (fun b b0 b1 => xg b (by omega)) hNT, SHe_c (fun b b0 b1 => xg b (by omega)) (fun b b0 b1 => xg b (by omega)) hSH⟩
          by_cases e : x 3 3 = m 3 3
          · have e3 : x 3 = m 3 := by
              funext j
              by_cases q : j = 3
              · rw [q]; exact e
              · exact f2 j q
            exact WLd_c e3 (xg 4 (by omega)) (xg 5 (by omega)) (xg 73 (by omega)) (xg 74 (by omega)) (xg 75 (by omega)) (by rw [xg 70 (by omega)]) hWL
          · exact WLd_up (by omega) (by rw [xg 70 (by omega)]) (xg 75 (by omega)) hWL
        by_cases d0 : c = 0
        · rw [if_pos d0] at MC
          refine ⟨_, R, x, x, ?_, MC, rel, fun _ _ _ => rfl⟩
          simp only [s213_0, s213_1, s213_2, s213_5, s213_8, s213_11, s213_12, s213_13, s213_14, s213_17, s213_20, s213_22, s213_23, s213_24, s213_25, s213_28, s213_29, s213_32, s213_35, s213_36, s213_37, s213_40, s213_41, s213_44, s213_45, s213_48, s213_49, s213_76, s213_77, s213_80, s213_83, s213_84, s213_85, s213_88, s213_91, s213_92, s213_93, s213_96, s213_99, zps_0, zps_1, zps_2, zps_3, zps_9, Option.bind_some, Option.bind_none, Int.reduceEq, Int.reduceNe, Int.reduceLT, Int.reduceLE, Int.reduceNeg, Int.reduceAdd, Int.reduceSub, Int.reduceMul, reduceIte, if_true, if_false, true_and, and_true, false_and, and_false, or_true, true_or, or_false, false_or, not_true_eq_false, not_false_eq_true, ite_not, z_b0, z_b1, z_b01, rGK0 hGK, rGK1 hGK, rGK2 hGK, rGK3 hGK, rGK4 hGK, rGK5 hGK, rGK6 hGK, rGK7 hGK, rGK8 hGK, rGK9 hGK, kGK0, kd2, kd3, kd9, kd11, r2_0 hT2, r2_1 hT2, r2_2 hT2, rQK0 hQK, rQK1 hQK, rQK2 hQK, kQK0, kQK1, kQK2, kQK3, kQK4, kQK5, kQK6, W1, W2, c3, d0, G1, x1, if_true, if_false]
          (try subst d0; simp only [s213_0, s213_1, s213_2, s213_5, s213_8, s213_11, s213_12, s213_13, s213_14, s213_17, s213_20, s213_22, s213_23, s213_24, s213_25, s213_28, s213_29, s213_32, s213_35, s213_36, s213_37, s213_40, s213_41, s213_44, s213_45, s213_48, s213_49, s213_76, s213_77, s213_80, s213_83, s213_84, s213_85, s213_88, s213_91, s213_92, s213_93, s213_96, s213_99, zps_0, zps_1, zps_2, zps_3, zps_9, Option.bind_some, Option.bind_none, Int.reduceEq, Int.reduceNe, Int.reduceLT, Int.reduceLE, Int.reduceNeg, Int.reduceAdd, Int.reduceSub, Int.reduceMul, reduceIte, if_true, if_false, true_and, and_true, false_and, and_false, or_true, true_or, or_false, false_or, not_true_eq_false, not_false_eq_true, ite_not, z_b0, z_b1, z_b01, rGK0 hGK, rGK1 hGK, rGK2 hGK, rGK3 hGK, rGK4 hGK, rGK5 hGK, rGK6 hGK, rGK7 hGK, rGK8 hGK, rGK9 hGK, kGK0, kd2, kd3, kd9, kd11, r2_0 hT2, r2_1 hT2, r2_2 hT2, rQK0 hQK, rQK1 hQK, rQK2 hQK, kQK0, kQK1, kQK2, kQK3, kQK4, kQK5, kQK6, W1, W2, G1, x1, if_true, if_false])
        · rw [if_neg d0] at MC
          by_cases d1 : c = 1
          · rw [if_pos d1] at MC
            refine ⟨_, R, x, x, ?_, MC, rel, fun _ _ _ => rfl⟩
            subst d1
            simp only [s213_0, s213_1, s213_2, s213_5, s213_8, s213_11, s213_12, s213_13, s213_14, s213_17, s213_20, s213_22, s213_23, s213_24, s213_25, s213_28, s213_29, s213_32, s213_35, s213_36, s213_37, s213_40, s213_41, s213_44, s213_45, s213_48, s213_49, s213_76, s213_77, s213_80, s213_83, s213_84, s213_85, s213_88, s213_91, s213_92, s213_93, s213_96, s213_99, zps_0, zps_1, zps_2, zps_3, zps_9, Option.bind_some, Option.bind_none, Int.reduceEq, Int.reduceNe, Int.reduceLT, Int.reduceLE, Int.reduceNeg, Int.reduceAdd, Int.reduceSub, Int.reduceMul, reduceIte, if_true, if_false, true_and, and_true, false_and, and_false, or_true, true_or, or_false, false_or, not_true_eq_false, not_false_eq_true, ite_not, z_b0, z_b1, z_b01, rGK0 hGK, rGK1 hGK, rGK2 hGK, rGK3 hGK, rGK4 hGK, rGK5 hGK, rGK6 hGK, rGK7 hGK, rGK8 hGK, rGK9 hGK, kGK0, kd2, kd3, kd9, kd11, r2_0 hT2, r2_1 hT2, r2_2 hT2, rQK0 hQK, rQK1 hQK, rQK2 hQK, kQK0, kQK1, kQK2, kQK3, kQK4, kQK5, kQK6, W1, W2, G1, x2, if_true, if_false]
          · rw [if_neg d1, if_pos (show c = 2 by omega)] at MC
            refine ⟨_, R, x, x, ?_, MC, rel, fun _ _ _ => rfl⟩
            simp only [s213_0, s213_1, s213_2, s213_5, s213_8, s213_11, s213_12, s213_13, s213_14, s213_17, s213_20, s213_22, s213_23, s213_24, s213_25, s213_28, s213_29, s213_32, s213_35, s213_36, s213_37, s213_40, s213_41, s213_44, s213_45, s213_48, s213_49, s213_76, s213_77, s213_80, s213_83, s213_84, s213_85, s213_88, s213_91, s213_92, s213_93, s213_96, s213_99, zps_0, zps_1, zps_2, zps_3, zps_9, Option.bind_some, Option.bind_none, Int.reduceEq, Int.reduceNe, Int.reduceLT, Int.reduceLE, Int.reduceNeg, Int.reduceAdd, Int.reduceSub, Int.reduceMul, reduceIte, if_true, if_false, true_and, and_true, false_and, and_false, or_true, true_or, or_false, false_or, not_true_eq_false, not_false_eq_true, ite_not, z_b0, z_b1, z_b01, rGK0 hGK, rGK1 hGK, rGK2 hGK, rGK3 hGK, rGK4 hGK, rGK5 hGK, rGK6 hGK, rGK7 hGK, rGK8 hGK, rGK9 hGK, kGK0, kd2, kd3, kd9, kd11, r2_0 hT2, r2_1 hT2, r2_2 hT2, rQK0 hQK, rQK1 hQK, rQK2 hQK, kQK0, kQK1, kQK2, kQK3, kQK4, kQK5, kQK6, W1, W2, c3, d0, d1, G1, x3, if_true, if_false]
    · rw [if_neg hc] at W2
      have MC := tz_mchosen (R := R) hM hT.1.2.1 hL hPL.2.1 B c
      rw [if_neg (fun e => hc e.2)] at MC
      refine ⟨-1000000, R, m, m, ?_, MC, Rel_K h (by omega), fun _ _ _ => rfl⟩
      simp only [s213_0, s213_1, s213_2, s213_5, s213_8, s213_11, s213_12, s213_13, s213_14, s213_17, s213_20, s213_22, s213_23, s213_24, s213_25, s213_28, s213_29, s213_32, s213_35, s213_36, s213_37, s213_40, s213_41, s213_44, s213_45, s213_48, s213_49, s213_76, s213_77, s213_80, s213_83, s213_84, s213_85, s213_88, s213_91, s213_92, s213_93, s213_96, s213_99, zps_0, zps_1, zps_2, zps_3, zps_9, Option.bind_some, Option.bind_none, Int.reduceEq, Int.reduceNe, Int.reduceLT, Int.reduceLE, Int.reduceNeg, Int.reduceAdd, Int.reduceSub, Int.reduceMul, reduceIte, if_true, if_false, true_and, and_true, false_and, and_false, or_true, true_or, or_false, false_or, not_true_eq_false, not_false_eq_true, ite_not, z_b0, z_b1, z_b01, rGK0 hGK, rGK1 hGK, rGK2 hGK, rGK3 hGK, rGK4 hGK, rGK5 hGK, rGK6 hGK, rGK7 hGK, rGK8 hGK, rGK9 hGK, kGK0, kd2, kd3, kd9, kd11, r2_0 hT2, r2_1 hT2, r2_2 hT2, W1, W2, if_true, if_false]
  · rw [if_neg hB] at W1
    have MC := tz_mchosen (R := R) hM hT.1.2.1 hL hPL.2.1 B c
    rw [if_neg (fun e => hB e.1)] at MC
    refine ⟨-1000000, R, m, m, ?_, MC, Rel_K h (by omega), fun _ _ _ => rfl⟩
    simp only [s213_0, s213_1, s213_2, s213_5, s213_8, s213_11, s213_12, s213_13, s213_14, s213_17, s213_20, s213_22, s213_23, s213_24, s213_25, s213_28, s213_29, s213_32, s213_35, s213_36, s213_37, s213_40, s213_41, s213_44, s213_45, s213_48, s213_49, s213_76, s213_77, s213_80, s213_83, s213_84, s213_85, s213_88, s213_91, s213_92, s213_93, s213_96, s213_99, zps_0, zps_1, zps_2, zps_3, zps_9, Option.bind_some, Option.bind_none, Int.reduceEq, Int.reduceNe, Int.reduceLT, Int.reduceLE, Int.reduceNeg, Int.reduceAdd, Int.reduceSub, Int.reduceMul, reduceIte, if_true, if_false, true_and, and_true, false_and, and_false, or_true, true_or, or_false, false_or, not_true_eq_false, not_false_eq_true, ite_not, z_b0, z_b1, z_b01, rGK0 hGK, rGK1 hGK, rGK2 hGK, rGK3 hGK, rGK4 hGK, rGK5 hGK, rGK6 hGK, rGK7 hGK, rGK8 hGK, rGK9 hGK, kGK0, kd2, kd3, kd9, kd11, r2_0 hT2, r2_1 hT2, r2_2 hT2, W1, if_true, if_false]
end CHOX
