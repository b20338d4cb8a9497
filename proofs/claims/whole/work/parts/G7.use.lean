/-! calls: ground, height, use -/
section USE
variable {R m x : zM} {p g S0 K : Int}
theorem Rel_RA (h : Rel R m S0 K) : RA R m := ⟨h.2.2.1, h.2.1⟩
/-- an act that changes a ground or a height -/
theorem Rel_gh (h : Rel R m S0 K) (hX : RA R x) (f : ∀ b, b ≠ 3 → b ≠ 4 → b ≠ 5 → b ≠ 7 → (b < 58 ∨ 61 < b) → b ≠ 100 → b ≠ 101 → b ≠ 102 → (b < 114 ∨ 116 < b) → x b = m b) (hk : ∀ k, k ≠ 19 → x 100 k = m 100 k) (h3 : m 3 3 < x 3 3 ∧ x 3 3 ≤ m 3 3 + 1000) : Rel R x S0 (K + 1) := by
  have h' := h
  obtain ⟨hRT, hA, hT, hKA, hPA, hTP, hWT, hWL, ⟨ntr, hTR⟩, ⟨npl, hPL⟩, hNT, hSH⟩ := h'
  exact Rel_act h hRT hX.2 hX.1 (PAs_c (by rw [f 2 (by decide) (by decide) (by decide) (by decide) (by omega) (by decide) (by decide) (by decide) (by omega)]) (f 27 (by decide) (by decide) (by decide) (by decide) (by omega) (by decide) (by decide) (by decide) (by omega)) (f 28 (by decide) (by decide) (by decide) (by decide) (by omega) (by decide) (by decide) (by decide) (by omega)) (f 118 (by decide) (by decide) (by decide) (by decide) (by omega) (by decide) (by decide) (by decide) (by omega)) (f 119 (by decide) (by decide) (by decide) (by decide) (by omega) (by decide) (by decide) (by decide) (by omega)) (hk 0 (by decide)) (hk 1 (by decide)) hPA) (TPe_c (by rw [f 63 (by decide) (by decide) (by decide) (by decide) (by omega) (by decide) (by decide) (by decide) (by omega)]) (by rw [f 63 (by decide) (by decide) (by decide) (by decide) (by omega) (by decide) (by decide) (by decide) (by omega)]) (f 64 (by decide) (by decide) (by decide) (by decide) (by omega) (by decide) (by decide) (by decide) (by omega)) (hk 27 (by decide)) (hk 28 (by decide)) (f 120 (by decide) (by decide) (by decide) (by decide) (by omega) (by decide) (by decide) (by decide) (by omega)) (f 122 (by decide) (by decide) (by decide) (by decide) (by omega) (by decide) (by decide) (by decide) (by omega)) (f 123 (by decide) (by decide) (by decide) (by decide) (by omega) (by decide) (by decide) (by decide) (by omega)) hTP) (fun b hb => f b (by omega) (by omega) (by omega) (by omega) (by omega) (by omega) (by omega) (by omega) (by omega)) (fun k hk' => hk k (by omega)) (Or.inr h3)
theorem Rel_acts (h : Rel R m S0 K) : m 58 0 = m 100 19 ∧ 0 ≤ m 100 19 ∧ m 100 19 ≤ 60 := ⟨h.2.1.2.1, h.2.1.1⟩
theorem Rel_C (h : Rel R m S0 K) (hK : K < 512) : 0 ≤ m 3 3 ∧ m 3 3 < 1000000 ∧ 0 ≤ m 31 3 ∧ m 31 3 < 1000000 := by
  have := h.2.2.2.1
  have h1 := this.1
  have h2 := this.2.1
  omega
theorem top_ground (p g : Int) : Top 182 231 [(0, p), (0, g)] [(0, p), (0, g), (9, 0)] := by
  intro R m S0 K h hK0 hK
  have h' := h
  obtain ⟨hRT, hA, hT, hKA, hPA, hTP, hWT, hWL, ⟨ntr, hTR⟩, ⟨npl, hPL⟩, hNT, hSH⟩ := h'
  obtain ⟨hT2, hT30, hL68, hGK, hAK, hXK, hWK, hPK, hQK, hNK, hCK, hM⟩ := hRT.1
  obtain ⟨ea, a0, a60⟩ := Rel_acts h
  have hC := Rel_C h hK
  have H := tz_has (m := m) (TK_B3 hT2) p
  rw [TR_n3 hT] at H
  have IP := tz_isPlot (R := R) hM hT.1.2.1 p
  have W := tz_within g 0 2 R m
  have AF := tz_afull (R := R) (m := m) hAK
  by_cases hp : 0 ≤ p ∧ p < mN m
  · rw [if_pos hp] at H IP
    have n64 := MV_n hT.1.2.1
    have c64 : 0 ≤ p ∧ p < 64 := by omega
    obtain ⟨g1, g2, g3⟩ := TR_g hT hp
    have CG : ev 115 0 [(2, 2), (0, p)] [] R m = some ((0, if m 6 p = 0 then 1 else 0), R, m) := tz_canGround hT2 (TR_V3 hT) (by show 0 ≤ p ∧ p < m 3 2; rw [TR_n3 hT]; exact hp)
    rw [g3] at CG
    by_cases hg : 0 ≤ g ∧ g ≤ 2
    · rw [if_pos hg] at W
      by_cases hu : m 103 p = 0
      · rw [if_pos hu] at CG
        by_cases f : m 100 19 = 60
        · have f1 : 60 ≤ m 58 0 := by omega
          rw [if_pos f1] at AF
          refine ⟨-3, R, m, m, ?_, ?_, Rel_K h (by omega), fun _ _ _ => rfl⟩
          · simp only [s182_0, s182_1, s182_4, s182_7, s182_8, s182_11, s182_14, s182_15, s182_16, s182_17, s182_20, s182_23, s182_24, s182_25, s182_26, s182_29, s182_30, s182_33, s182_36, s182_38, s182_39, s182_40, s182_43, s182_46, s182_49, s182_51, s182_52, s182_53, s182_56, s182_57, s182_58, s182_61, s182_64, s182_65, s182_66, s182_69, s182_70, s182_73, s182_76, s182_77, s182_78, s182_81, zps_0, zps_1, zps_2, zps_3, zps_9, Option.bind_some, Option.bind_none, Int.reduceEq, Int.reduceNe, Int.reduceLT, Int.reduceLE, Int.reduceNeg, Int.reduceAdd, Int.reduceSub, Int.reduceMul, reduceIte, if_true, if_false, true_and, and_true, false_and, and_false, or_true, true_or, or_false, false_or, not_true_eq_false, not_false_eq_true, ite_not, z_b0, z_b1, z_b01, rGK0 hGK, rGK1 hGK, rGK2 hGK, rGK3 hGK, rGK4 hGK, rGK5 hGK, rGK6 hGK, rGK7 hGK, rGK8 hGK, rGK9 hGK, kGK0, kd2, kd3, kd9, kd11, r2_0 hT2, r2_1 hT2, r2_2 hT2, kAK0, H, W, CG, AF, if_true, if_false]
          · simp only [s231_0, s231_1, s231_2, s231_5, s231_8, s231_9, s231_10, s231_11, s231_14, s231_17, s231_20, s231_21, s231_22, s231_23, s231_26, s231_27, s231_28, s231_31, s231_33, s231_34, s231_35, s231_38, s231_40, s231_43, s231_45, s231_46, s231_47, s231_48, s231_49, s231_50, s231_51, s231_52, s231_55, s231_56, s231_59, s231_60, s231_61, s231_62, s231_63, s231_66, s231_67, s231_68, s231_69, s231_70, zps_0, zps_1, zps_2, zps_3, zps_9, Option.bind_some, Option.bind_none, Int.reduceEq, Int.reduceNe, Int.reduceLT, Int.reduceLE, Int.reduceNeg, Int.reduceAdd, Int.reduceSub, Int.reduceMul, reduceIte, if_true, if_false, true_and, and_true, false_and, and_false, or_true, true_or, or_false, false_or, not_true_eq_false, not_false_eq_true, ite_not, z_b0, z_b1, z_b01, rMK0 hM, rMK1 hM, rMK2 hM, rMK3 hM, rMK4 hM, rMK5 hM, rMK6 hM, rMK7 hM, rMK8 hM, rMK9 hM, rMK10 hM, rMK11 hM, rMK12 hM, rMK13 hM, rMK14 hM, rMK15 hM, rMK16 hM, rMK17 hM, rMK18 hM, rMK19 hM, rMK20 hM, rMK21 hM, rMK22 hM, rMK23 hM, rMK24 hM, rMK25 hM, rMK26 hM, rMK27 hM, rMK28 hM, rMK29 hM, rMK30 hM, rMK31 hM, rMK32 hM, rMK33 hM, rMK34 hM, rMK35 hM, rMK36 hM, rMK37 hM, rMK38 hM, rMK39 hM, rMK40 hM, rMK41 hM, rMK42 hM, rMK43 hM, rMK44 hM, rMK45 hM, rMK46 hM, rMK47 hM, rMK48 hM, rMK49 hM, rMK50 hM, rMK51 hM, kMK0, kMK1, kMK2, kMK3, kMK4, kMK5, kMK6, kMK7, kMK8, kMK9, kMK10, kMK11, kMK12, kMK13, kMK14, kMK15, kMK16, kMK17, kMK18, kMK19, kMK20, kMK21, kMK22, kMK23, kMK24, kMK25, kMK26, kMK27, kMK28, kMK29, kMK30, kMK31, kMK32, kMK33, kMK34, kMK35, kMK36, kMK37, kMK38, kMK39, kMK40, kMK41, kMK42, kMK43, kMK44, kMK45, kMK46, kMK47, kMK48, kMK49, kMK50, kMK51, kMK52, kMK53, kMK54, kMK55, kMK56, kMK57, kMK58, kMK59, kMK60, kMK61, kMK62, kMK63, kMK64, kMK65, kMK66, kMK67, kMK68, kMK69, kMK70, kMK71, kMK72, kMK73, kMK74, kMK75, kMK76, kMK77, kMK78, kMK79, kMK80, kMK81, kMK82, kMK83, kMK84, kMK85, kMK86, kMK87, kMK88, kMK89, kMK90, kMK91, kMK92, kMK93, kMK94, kMK95, kMK96, kMK97, kMK98, kMK99, kMK100, kMK101, kMK102, kMK103, kMK104, IP, tz_in, hg, c64, hu, f, and_self, if_true, if_false]
        · have G1 := tz_gground (R := R) (m := m) (p := p) (g := g) hT2 hGK hAK hT (by rw [ea]; omega) hp hg hu (by omega)
          obtain ⟨c3, c4, c7, ck, co⟩ := cG_rows m p g
          have e100 : cG m p g 100 = m 100 := co 100 (by decide) (by decide) (by decide) (by omega)
          have eN : mN (cG m p g) = mN m := by unfold mN; rw [e100]
          have G2 := tz_mground (R := R) (m := cG m p g) (p := p) (g := g) hM (by unfold MV; rw [eN, e100, co 101 (by decide) (by decide) (by decide) (by omega), co 102 (by decide) (by decide) (by decide) (by omega), co 103 (by decide) (by decide) (by decide) (by omega)]; exact hT.1.2.1) (by rw [e100]; omega) (by rw [eN]; exact hp) hg (by rw [co 103 (by decide) (by decide) (by decide) (by omega)]; exact hu)
          rw [co 101 (by decide) (by decide) (by decide) (by omega)] at G2
          obtain ⟨m101, mk, m100, mo⟩ := mG_rows (cG m p g) p g
          refine ⟨m 101 p, R, _, _, G1, G2, Rel_gh h (RA_g (Rel_RA h) (by omega) hp hg (fun _ => rfl)) (fun b b1 b2 b3 b4 b5 b6 b7 b8 b9 => by rw [mo b b6 b7 b9, co b b1 b2 b4 b5]) (fun k hk => by rw [m100, zrw_ne hk, e100]) ?_, fun _ _ _ => rfl⟩
          rw [mo 3 (by decide) (by decide) (by omega), c3, zrw_at]
          omega
      · rw [if_neg hu] at CG
        refine ⟨-2, R, m, m, ?_, ?_, Rel_K h (by omega), fun _ _ _ => rfl⟩
        · simp only [s182_0, s182_1, s182_4, s182_7, s182_8, s182_11, s182_14, s182_15, s182_16, s182_17, s182_20, s182_23, s182_24, s182_25, s182_26, s182_29, s182_30, s182_33, s182_36, s182_38, s182_39, s182_40, s182_43, s182_46, s182_49, s182_51, s182_52, s182_53, s182_56, s182_57, s182_58, s182_61, s182_64, s182_65, s182_66, s182_69, s182_70, s182_73, s182_76, s182_77, s182_78, s182_81, zps_0, zps_1, zps_2, zps_3, zps_9, Option.bind_some, Option.bind_none, Int.reduceEq, Int.reduceNe, Int.reduceLT, Int.reduceLE, Int.reduceNeg, Int.reduceAdd, Int.reduceSub, Int.reduceMul, reduceIte, if_true, if_false, true_and, and_true, false_and, and_false, or_true, true_or, or_false, false_or, not_true_eq_false, not_false_eq_true, ite_not, z_b0, z_b1, z_b01, rGK0 hGK, rGK1 hGK, rGK2 hGK, rGK3 hGK, rGK4 hGK, rGK5 hGK, rGK6 hGK, rGK7 hGK, rGK8 hGK, rGK9 hGK, kGK0, kd2, kd3, kd9, kd11, r2_0 hT2, r2_1 hT2, r2_2 hT2, H, W, CG, if_true, if_false]
        · simp only [s231_0, s231_1, s231_2, s231_5, s231_8, s231_9, s231_10, s231_11, s231_14, s231_17, s231_20, s231_21, s231_22, s231_23, s231_26, s231_27, s231_28, s231_31, s231_33, s231_34, s231_35, s231_38, s231_40, s231_43, s231_45, s231_46, s231_47, s231_48, s231_49, s231_50, s231_51, s231_52, s231_55, s231_56, s231_59, s231_60, s231_61, s231_62, s231_63, s231_66, s231_67, s231_68, s231_69, s231_70, zps_0, zps_1, zps_2, zps_3, zps_9, Option.bind_some, Option.bind_none, Int.reduceEq, Int.reduceNe, Int.reduceLT, Int.reduceLE, Int.reduceNeg, Int.reduceAdd, Int.reduceSub, Int.reduceMul, reduceIte, if_true, if_false, true_and, and_true, false_and, and_false, or_true, true_or, or_false, false_or, not_true_eq_false, not_false_eq_true, ite_not, z_b0, z_b1, z_b01, rMK0 hM, rMK1 hM, rMK2 hM, rMK3 hM, rMK4 hM, rMK5 hM, rMK6 hM, rMK7 hM, rMK8 hM, rMK9 hM, rMK10 hM, rMK11 hM, rMK12 hM, rMK13 hM, rMK14 hM, rMK15 hM, rMK16 hM, rMK17 hM, rMK18 hM, rMK19 hM, rMK20 hM, rMK21 hM, rMK22 hM, rMK23 hM, rMK24 hM, rMK25 hM, rMK26 hM, rMK27 hM, rMK28 hM, rMK29 hM, rMK30 hM, rMK31 hM, rMK32 hM, rMK33 hM, rMK34 hM, rMK35 hM, rMK36 hM, rMK37 hM, rMK38 hM, rMK39 hM, rMK40 hM, rMK41 hM, rMK42 hM, rMK43 hM, rMK44 hM, rMK45 hM, rMK46 hM, rMK47 hM, rMK48 hM, rMK49 hM, rMK50 hM, rMK51 hM, kMK0, kMK1, kMK2, kMK3, kMK4, kMK5, kMK6, kMK7, kMK8, kMK9, kMK10, kMK11, kMK12, kMK13, kMK14, kMK15, kMK16, kMK17, kMK18, kMK19, kMK20, kMK21, kMK22, kMK23, kMK24, kMK25, kMK26, kMK27, kMK28, kMK29, kMK30, kMK31, kMK32, kMK33, kMK34, kMK35, kMK36, kMK37, kMK38, kMK39, kMK40, kMK41, kMK42, kMK43, kMK44, kMK45, kMK46, kMK47, kMK48, kMK49, kMK50, kMK51, kMK52, kMK53, kMK54, kMK55, kMK56, kMK57, kMK58, kMK59, kMK60, kMK61, kMK62, kMK63, kMK64, kMK65, kMK66, kMK67, kMK68, kMK69, kMK70, kMK71, kMK72, kMK73, kMK74, kMK75, kMK76, kMK77, kMK78, kMK79, kMK80, kMK81, kMK82, kMK83, kMK84, kMK85, kMK86, kMK87, kMK88, kMK89, kMK90, kMK91, kMK92, kMK93, kMK94, kMK95, kMK96, kMK97, kMK98, kMK99, kMK100, kMK101, kMK102, kMK103, kMK104, IP, tz_in, hg, c64, hu, and_self, if_true, if_false]
    · rw [if_neg hg] at W
      refine ⟨-1, R, m, m, ?_, ?_, Rel_K h (by omega), fun _ _ _ => rfl⟩
      · simp only [s182_0, s182_1, s182_4, s182_7, s182_8, s182_11, s182_14, s182_15, s182_16, s182_17, s182_20, s182_23, s182_24, s182_25, s182_26, s182_29, s182_30, s182_33, s182_36, s182_38, s182_39, s182_40, s182_43, s182_46, s182_49, s182_51, s182_52, s182_53, s182_56, s182_57, s182_58, s182_61, s182_64, s182_65, s182_66, s182_69, s182_70, s182_73, s182_76, s182_77, s182_78, s182_81, zps_0, zps_1, zps_2, zps_3, zps_9, Option.bind_some, Option.bind_none, Int.reduceEq, Int.reduceNe, Int.reduceLT, Int.reduceLE, Int.reduceNeg, Int.reduceAdd, Int.reduceSub, Int.reduceMul, reduceIte, if_true, if_false, true_and, and_true, false_and, and_false, or_true, true_or, or_false, false_or, not_true_eq_false, not_false_eq_true, ite_not, z_b0, z_b1, z_b01, rGK0 hGK, rGK1 hGK, rGK2 hGK, rGK3 hGK, rGK4 hGK, rGK5 hGK, rGK6 hGK, rGK7 hGK, rGK8 hGK, rGK9 hGK, kGK0, kd2, kd3, kd9, kd11, r2_0 hT2, r2_1 hT2, r2_2 hT2, H, W, if_true, if_false]
      · simp only [s231_0, s231_1, s231_2, s231_5, s231_8, s231_9, s231_10, s231_11, s231_14, s231_17, s231_20, s231_21, s231_22, s231_23, s231_26, s231_27, s231_28, s231_31, s231_33, s231_34, s231_35, s231_38, s231_40, s231_43, s231_45, s231_46, s231_47, s231_48, s231_49, s231_50, s231_51, s231_52, s231_55, s231_56, s231_59, s231_60, s231_61, s231_62, s231_63, s231_66, s231_67, s231_68, s231_69, s231_70, zps_0, zps_1, zps_2, zps_3, zps_9, Option.bind_some, Option.bind_none, Int.reduceEq, Int.reduceNe, Int.reduceLT, Int.reduceLE, Int.reduceNeg, Int.reduceAdd, Int.reduceSub, Int.reduceMul, reduceIte, if_true, if_false, true_and, and_true, false_and, and_false, or_true, true_or, or_false, false_or, not_true_eq_false, not_false_eq_true, ite_not, z_b0, z_b1, z_b01, rMK0 hM, rMK1 hM, rMK2 hM, rMK3 hM, rMK4 hM, rMK5 hM, rMK6 hM, rMK7 hM, rMK8 hM, rMK9 hM, rMK10 hM, rMK11 hM, rMK12 hM, rMK13 hM, rMK14 hM, rMK15 hM, rMK16 hM, rMK17 hM, rMK18 hM, rMK19 hM, rMK20 hM, rMK21 hM, rMK22 hM, rMK23 hM, rMK24 hM, rMK25 hM, rMK26 hM, rMK27 hM, rMK28 hM, rMK29 hM, rMK30 hM, rMK31 hM, rMK32 hM, rMK33 hM, rMK34 hM, rMK35 hM, rMK36 hM, rMK37 hM, rMK38 hM, rMK39 hM, rMK40 hM, rMK41 hM, rMK42 hM, rMK43 hM, rMK44 hM, rMK45 hM, rMK46 hM, rMK47 hM, rMK48 hM, rMK49 hM, rMK50 hM, rMK51 hM, kMK0, kMK1, kMK2, kMK3, kMK4, kMK5, kMK6, kMK7, kMK8, kMK9, kMK10, kMK11, kMK12, kMK13, kMK14, kMK15, kMK16, kMK17, kMK18, kMK19, kMK20, kMK21, kMK22, kMK23, kMK24, kMK25, kMK26, kMK27, kMK28, kMK29, kMK30, kMK31, kMK32, kMK33, kMK34, kMK35, kMK36, kMK37, kMK38, kMK39, kMK40, kMK41, kMK42, kMK43, kMK44, kMK45, kMK46, kMK47, kMK48, kMK49, kMK50, kMK51, kMK52, kMK53, kMK54, kMK55, kMK56, kMK57, kMK58, kMK59, kMK60, kMK61, kMK62, kMK63, kMK64, kMK65, kMK66, kMK67, kMK68, kMK69, kMK70, kMK71, kMK72, kMK73, kMK74, kMK75, kMK76, kMK77, kMK78, kMK79, kMK80, kMK81, kMK82, kMK83, kMK84, kMK85, kMK86, kMK87, kMK88, kMK89, kMK90, kMK91, kMK92, kMK93, kMK94, kMK95, kMK96, kMK97, kMK98, kMK99, kMK100, kMK101, kMK102, kMK103, kMK104, IP, tz_in, hg, if_true, if_false]
  · rw [if_neg hp] at H IP
    refine ⟨-1, R, m, m, ?_, ?_, Rel_K h (by omega), fun _ _ _ => rfl⟩
    · simp only [s182_0, s182_1, s182_4, s182_7, s182_8, s182_11, s182_14, s182_15, s182_16, s182_17, s182_20, s182_23, s182_24, s182_25, s182_26, s182_29, s182_30, s182_33, s182_36, s182_38, s182_39, s182_40, s182_43, s182_46, s182_49, s182_51, s182_52, s182_53, s182_56, s182_57, s182_58, s182_61, s182_64, s182_65, s182_66, s182_69, s182_70, s182_73, s182_76, s182_77, s182_78, s182_81, zps_0, zps_1, zps_2, zps_3, zps_9, Option.bind_some, Option.bind_none, Int.reduceEq, Int.reduceNe, Int.reduceLT, Int.reduceLE, Int.reduceNeg, Int.reduceAdd, Int.reduceSub, Int.reduceMul, reduceIte, if_true, if_false, true_and, and_true, false_and, and_false, or_true, true_or, or_false, false_or, not_true_eq_false, not_false_eq_true, ite_not, z_b0, z_b1, z_b01, rGK0 hGK, rGK1 hGK, rGK2 hGK, rGK3 hGK, rGK4 hGK, rGK5 hGK, rGK6 hGK, rGK7 hGK, rGK8 hGK, rGK9 hGK, kGK0, kd2, kd3, kd9, kd11, r2_0 hT2, r2_1 hT2, r2_2 hT2, H, if_true, if_false]
    · simp only [s231_0, s231_1, s231_2, s231_5, s231_8, s231_9, s231_10, s231_11, s231_14, s231_17, s231_20, s231_21, s231_22, s231_23, s231_26, s231_27, s231_28, s231_31, s231_33, s231_34, s231_35, s231_38, s231_40, s231_43, s231_45, s231_46, s231_47, s231_48, s231_49, s231_50, s231_51, s231_52, s231_55, s231_56, s231_59, s231_60, s231_61, s231_62, s231_63, s231_66, s231_67, s231_68, s231_69, s231_70, zps_0, zps_1, zps_2, zps_3, zps_9, Option.bind_some, Option.bind_none, Int.reduceEq, Int.reduceNe, Int.reduceLT, Int.reduceLE, Int.reduceNeg, Int.reduceAdd, Int.reduceSub, Int.reduceMul, reduceIte, if_true, if_false, true_and, and_true, false_and, and_false, or_true, true_or, or_false, false_or, not_true_eq_false, not_false_eq_true, ite_not, z_b0, z_b1, z_b01, rMK0 hM, rMK1 hM, rMK2 hM, rMK3 hM, rMK4 hM, rMK5 hM, rMK6 hM, rMK7 hM, rMK8 hM, rMK9 hM, rMK10 hM, rMK11 hM, rMK12 hM, rMK13 hM, rMK14 hM, rMK15 hM, rMK16 hM, rMK17 hM, rMK18 hM, rMK19 hM, rMK20 hM, rMK21 hM, rMK22 hM, rMK23 hM, rMK24 hM, rMK25 hM, rMK26 hM, rMK27 hM, rMK28 hM, rMK29 hM, rMK30 hM, rMK31 hM, rMK32 hM, rMK33 hM, rMK34 hM, rMK35 hM, rMK36 hM, rMK37 hM, rMK38 hM, rMK39 hM, rMK40 hM, rMK41 hM, rMK42 hM, rMK43 hM, rMK44 hM, rMK45 hM, rMK46 hM, rMK47 hM, rMK48 hM, rMK49 hM, rMK50 hM, rMK51 hM, kMK0, kMK1, kMK2, kMK3, kMK4, kMK5, kMK6, kMK7, kMK8, kMK9, kMK10, kMK11, kMK12, kMK13, kMK14, kMK15, kMK16, kMK17, kMK18, kMK19, kMK20, kMK21, kMK22, kMK23, kMK24, kMK25, kMK26, kMK27, kMK28, kMK29, kMK30, kMK31, kMK32, kMK33, kMK34, kMK35, kMK36, kMK37, kMK38, kMK39, kMK40, kMK41, kMK42, kMK43, kMK44, kMK45, kMK46, kMK47, kMK48, kMK49, kMK50, kMK51, kMK52, kMK53, kMK54, kMK55, kMK56, kMK57, kMK58, kMK59, kMK60, kMK61, kMK62, kMK63, kMK64, kMK65, kMK66, kMK67, kMK68, kMK69, kMK70, kMK71, kMK72, kMK73, kMK74, kMK75, kMK76, kMK77, kMK78, kMK79, kMK80, kMK81, kMK82, kMK83, kMK84, kMK85, kMK86, kMK87, kMK88, kMK89, kMK90, kMK91, kMK92, kMK93, kMK94, kMK95, kMK96, kMK97, kMK98, kMK99, kMK100, kMK101, kMK102, kMK103, kMK104, IP, if_true, if_false]
theorem top_height (p g : Int) : Top 183 235 [(0, p), (0, g)] [(0, p), (0, g), (9, 0)] := by
  intro R m S0 K h hK0 hK
  have h' := h
  obtain ⟨hRT, hA, hT, hKA, hPA, hTP, hWT, hWL, ⟨ntr, hTR⟩, ⟨npl, hPL⟩, hNT, hSH⟩ := h'
  obtain ⟨hT2, hT30, hL68, hGK, hAK, hXK, hWK, hPK, hQK, hNK, hCK, hM⟩ := hRT.1
  obtain ⟨ea, a0, a60⟩ := Rel_acts h
  have hC := Rel_C h hK
  have H := tz_has (m := m) (TK_B3 hT2) p
  rw [TR_n3 hT] at H
  have IP := tz_isPlot (R := R) hM hT.1.2.1 p
  have W := tz_within g 0 9 R m
  have AF := tz_afull (R := R) (m := m) hAK
  by_cases hp : 0 ≤ p ∧ p < mN m
  · rw [if_pos hp] at H IP
    by_cases hg : 0 ≤ g ∧ g ≤ 9
    · rw [if_pos hg] at W
      by_cases f : m 100 19 = 60
      · have f1 : 60 ≤ m 58 0 := by omega
        rw [if_pos f1] at AF
        refine ⟨-3, R, m, m, ?_, ?_, Rel_K h (by omega), fun _ _ _ => rfl⟩
        · simp only [s183_0, s183_1, s183_4, s183_7, s183_8, s183_11, s183_14, s183_15, s183_16, s183_18, s183_21, s183_24, s183_25, s183_26, s183_27, s183_30, s183_33, s183_36, s183_38, s183_39, s183_40, s183_43, s183_44, s183_45, s183_48, s183_51, s183_52, s183_53, s183_56, s183_57, s183_60, s183_63, s183_64, s183_65, s183_68, zps_0, zps_1, zps_2, zps_3, zps_9, Option.bind_some, Option.bind_none, Int.reduceEq, Int.reduceNe, Int.reduceLT, Int.reduceLE, Int.reduceNeg, Int.reduceAdd, Int.reduceSub, Int.reduceMul, reduceIte, if_true, if_false, true_and, and_true, false_and, and_false, or_true, true_or, or_false, false_or, not_true_eq_false, not_false_eq_true, ite_not, z_b0, z_b1, z_b01, rGK0 hGK, rGK1 hGK, rGK2 hGK, rGK3 hGK, rGK4 hGK, rGK5 hGK, rGK6 hGK, rGK7 hGK, rGK8 hGK, rGK9 hGK, kGK0, kd2, kd3, kd9, kd11, r2_0 hT2, r2_1 hT2, r2_2 hT2, kAK0, H, W, AF, if_true, if_false]
        · simp only [s235_0, s235_1, s235_2, s235_5, s235_8, s235_9, s235_10, s235_11, s235_14, s235_17, s235_20, s235_21, s235_22, s235_23, s235_26, s235_28, s235_31, s235_33, s235_34, s235_35, s235_36, s235_37, s235_38, s235_39, s235_40, s235_43, s235_44, s235_47, s235_48, s235_49, s235_50, s235_51, s235_54, s235_55, s235_56, s235_57, s235_58, zps_0, zps_1, zps_2, zps_3, zps_9, Option.bind_some, Option.bind_none, Int.reduceEq, Int.reduceNe, Int.reduceLT, Int.reduceLE, Int.reduceNeg, Int.reduceAdd, Int.reduceSub, Int.reduceMul, reduceIte, if_true, if_false, true_and, and_true, false_and, and_false, or_true, true_or, or_false, false_or, not_true_eq_false, not_false_eq_true, ite_not, z_b0, z_b1, z_b01, rMK0 hM, rMK1 hM, rMK2 hM, rMK3 hM, rMK4 hM, rMK5 hM, rMK6 hM, rMK7 hM, rMK8 hM, rMK9 hM, rMK10 hM, rMK11 hM, rMK12 hM, rMK13 hM, rMK14 hM, rMK15 hM, rMK16 hM, rMK17 hM, rMK18 hM, rMK19 hM, rMK20 hM, rMK21 hM, rMK22 hM, rMK23 hM, rMK24 hM, rMK25 hM, rMK26 hM, rMK27 hM, rMK28 hM, rMK29 hM, rMK30 hM, rMK31 hM, rMK32 hM, rMK33 hM, rMK34 hM, rMK35 hM, rMK36 hM, rMK37 hM, rMK38 hM, rMK39 hM, rMK40 hM, rMK41 hM, rMK42 hM, rMK43 hM, rMK44 hM, rMK45 hM, rMK46 hM, rMK47 hM, rMK48 hM, rMK49 hM, rMK50 hM, rMK51 hM, kMK0, kMK1, kMK2, kMK3, kMK4, kMK5, kMK6, kMK7, kMK8, kMK9, kMK10, kMK11, kMK12, kMK13, kMK14, kMK15, kMK16, kMK17, kMK18, kMK19, kMK20, kMK21, kMK22, kMK23, kMK24, kMK25, kMK26, kMK27, kMK28, kMK29, kMK30, kMK31, kMK32, kMK33, kMK34, kMK35, kMK36, kMK37, kMK38, kMK39, kMK40, kMK41, kMK42, kMK43, kMK44, kMK45, kMK46, kMK47, kMK48, kMK49, kMK50, kMK51, kMK52, kMK53, kMK54, kMK55, kMK56, kMK57, kMK58, kMK59, kMK60, kMK61, kMK62, kMK63, kMK64, kMK65, kMK66, kMK67, kMK68, kMK69, kMK70, kMK71, kMK72, kMK73, kMK74, kMK75, kMK76, kMK77, kMK78, kMK79, kMK80, kMK81, kMK82, kMK83, kMK84, kMK85, kMK86, kMK87, kMK88, kMK89, kMK90, kMK91, kMK92, kMK93, kMK94, kMK95, kMK96, kMK97, kMK98, kMK99, kMK100, kMK101, kMK102, kMK103, kMK104, IP, tz_in, hg, f, and_self, if_true, if_false]
      · have G1 := tz_gheight (R := R) (m := m) (p := p) (g := g) hT2 hGK hAK hT (by rw [ea]; omega) hp hg (by omega)
        obtain ⟨c3, c4, ck, co⟩ := cH_rows m p g
        have e100 : cH2 m p g 100 = m 100 := co 100 (by decide) (by decide) (by omega)
        have eN : mN (cH2 m p g) = mN m := by unfold mN; rw [e100]
        have G2 := tz_mheight (R := R) (m := cH2 m p g) (p := p) (g := g) hM (by unfold MV; rw [eN, e100, co 101 (by decide) (by decide) (by omega), co 102 (by decide) (by decide) (by omega), co 103 (by decide) (by decide) (by omega)]; exact hT.1.2.1) (by rw [e100]; omega) (by rw [eN]; exact hp) hg
        rw [co 102 (by decide) (by decide) (by omega)] at G2
        obtain ⟨m101, mk, m100, mo⟩ := mH_rows (cH2 m p g) p g
        refine ⟨m 102 p, R, _, _, G1, G2, Rel_gh h (RA_h (Rel_RA h) (by omega) hp hg (fun _ => rfl)) (fun b b1 b2 b3 b4 b5 b6 b7 b8 b9 => by rw [mo b b6 b8 b9, co b b1 b3 b5]) (fun k hk => by rw [m100, zrw_ne hk, e100]) ?_, fun _ _ _ => rfl⟩
        rw [mo 3 (by decide) (by decide) (by omega), c3, zrw_at]
        omega
    · rw [if_neg hg] at W
      refine ⟨-1, R, m, m, ?_, ?_, Rel_K h (by omega), fun _ _ _ => rfl⟩
      · simp only [s183_0, s183_1, s183_4, s183_7, s183_8, s183_11, s183_14, s183_15, s183_16, s183_18, s183_21, s183_24, s183_25, s183_26, s183_27, s183_30, s183_33, s183_36, s183_38, s183_39, s183_40, s183_43, s183_44, s183_45, s183_48, s183_51, s183_52, s183_53, s183_56, s183_57, s183_60, s183_63, s183_64, s183_65, s183_68, zps_0, zps_1, zps_2, zps_3, zps_9, Option.bind_some, Option.bind_none, Int.reduceEq, Int.reduceNe, Int.reduceLT, Int.reduceLE, Int.reduceNeg, Int.reduceAdd, Int.reduceSub, Int.reduceMul, reduceIte, if_true, if_false, true_and, and_true, false_and, and_false, or_true, true_or, or_false, false_or, not_true_eq_false, not_false_eq_true, ite_not, z_b0, z_b1, z_b01, rGK0 hGK, rGK1 hGK, rGK2 hGK, rGK3 hGK, rGK4 hGK, rGK5 hGK, rGK6 hGK, rGK7 hGK, rGK8 hGK, rGK9 hGK, kGK0, kd2, kd3, kd9, kd11, r2_0 hT2, r2_1 hT2, r2_2 hT2, H, W, if_true, if_false]
      · simp only [s235_0, s235_1, s235_2, s235_5, s235_8, s235_9, s235_10, s235_11, s235_14, s235_17, s235_20, s235_21, s235_22, s235_23, s235_26, s235_28, s235_31, s235_33, s235_34, s235_35, s235_36, s235_37, s235_38, s235_39, s235_40, s235_43, s235_44, s235_47, s235_48, s235_49, s235_50, s235_51, s235_54, s235_55, s235_56, s235_57, s235_58, zps_0, zps_1, zps_2, zps_3, zps_9, Option.bind_some, Option.bind_none, Int.reduceEq, Int.reduceNe, Int.reduceLT, Int.reduceLE, Int.reduceNeg, Int.reduceAdd, Int.reduceSub, Int.reduceMul, reduceIte, if_true, if_false, true_and, and_true, false_and, and_false, or_true, true_or, or_false, false_or, not_true_eq_false, not_false_eq_true, ite_not, z_b0, z_b1, z_b01, rMK0 hM, rMK1 hM, rMK2 hM, rMK3 hM, rMK4 hM, rMK5 hM, rMK6 hM, rMK7 hM, rMK8 hM, rMK9 hM, rMK10 hM, rMK11 hM, rMK12 hM, rMK13 hM, rMK14 hM, rMK15 hM, rMK16 hM, rMK17 hM, rMK18 hM, rMK19 hM, rMK20 hM, rMK21 hM, rMK22 hM, rMK23 hM, rMK24 hM, rMK25 hM, rMK26 hM, rMK27 hM, rMK28 hM, rMK29 hM, rMK30 hM, rMK31 hM, rMK32 hM, rMK33 hM, rMK34 hM, rMK35 hM, rMK36 hM, rMK37 hM, rMK38 hM, rMK39 hM, rMK40 hM, rMK41 hM, rMK42 hM, rMK43 hM, rMK44 hM, rMK45 hM, rMK46 hM, rMK47 hM, rMK48 hM, rMK49 hM, rMK50 hM, rMK51 hM, kMK0, kMK1, kMK2, kMK3, kMK4, kMK5, kMK6, kMK7, kMK8, kMK9, kMK10, kMK11, kMK12, kMK13, kMK14, kMK15, kMK16, kMK17, kMK18, kMK19, kMK20, kMK21, kMK22, kMK23, kMK24, kMK25, kMK26, kMK27, kMK28, kMK29, kMK30, kMK31, kMK32, kMK33, kMK34, kMK35, kMK36, kMK37, kMK38, kMK39, kMK40, kMK41, kMK42, kMK43, kMK44, kMK45, kMK46, kMK47, kMK48, kMK49, kMK50, kMK51, kMK52, kMK53, kMK54, kMK55, kMK56, kMK57, kMK58, kMK59, kMK60, kMK61, kMK62, kMK63, kMK64, kMK65, kMK66, kMK67, kMK68, kMK69, kMK70, kMK71, kMK72, kMK73, kMK74, kMK75, kMK76, kMK77, kMK78, kMK79, kMK80, kMK81, kMK82, kMK83, kMK84, kMK85, kMK86, kMK87, kMK88, kMK89, kMK90, kMK91, kMK92, kMK93, kMK94, kMK95, kMK96, kMK97, kMK98, kMK99, kMK100, kMK101, kMK102, kMK103, kMK104, IP, tz_in, hg, if_true, if_false]
  · rw [if_neg hp] at H IP
    refine ⟨-1, R, m, m, ?_, ?_, Rel_K h (by omega), fun _ _ _ => rfl⟩
    · simp only [s183_0, s183_1, s183_4, s183_7, s183_8, s183_11, s183_14, s183_15, s183_16, s183_18, s183_21, s183_24, s183_25, s183_26, s183_27, s183_30, s183_33, s183_36, s183_38, s183_39, s183_40, s183_43, s183_44, s183_45, s183_48, s183_51, s183_52, s183_53, s183_56, s183_57, s183_60, s183_63, s183_64, s183_65, s183_68, zps_0, zps_1, zps_2, zps_3, zps_9, Option.bind_some, Option.bind_none, Int.reduceEq, Int.reduceNe, Int.reduceLT, Int.reduceLE, Int.reduceNeg, Int.reduceAdd, Int.reduceSub, Int.reduceMul, reduceIte, if_true, if_false, true_and, and_true, false_and, and_false, or_true, true_or, or_false, false_or, not_true_eq_false, not_false_eq_true, ite_not, z_b0, z_b1, z_b01, rGK0 hGK, rGK1 hGK, rGK2 hGK, rGK3 hGK, rGK4 hGK, rGK5 hGK, rGK6 hGK, rGK7 hGK, rGK8 hGK, rGK9 hGK, kGK0, kd2, kd3, kd9, kd11, r2_0 hT2, r2_1 hT2, r2_2 hT2, H, if_true, if_false]
    · simp only [s235_0, s235_1, s235_2, s235_5, s235_8, s235_9, s235_10, s235_11, s235_14, s235_17, s235_20, s235_21, s235_22, s235_23, s235_26, s235_28, s235_31, s235_33, s235_34, s235_35, s235_36, s235_37, s235_38, s235_39, s235_40, s235_43, s235_44, s235_47, s235_48, s235_49, s235_50, s235_51, s235_54, s235_55, s235_56, s235_57, s235_58, zps_0, zps_1, zps_2, zps_3, zps_9, Option.bind_some, Option.bind_none, Int.reduceEq, Int.reduceNe, Int.reduceLT, Int.reduceLE, Int.reduceNeg, Int.reduceAdd, Int.reduceSub, Int.reduceMul, reduceIte, if_true, if_false, true_and, and_true, false_and, and_false, or_true, true_or, or_false, false_or, not_true_eq_false, not_false_eq_true, ite_not, z_b0, z_b1, z_b01, rMK0 hM, rMK1 hM, rMK2 hM, rMK3 hM, rMK4 hM, rMK5 hM, rMK6 hM, rMK7 hM, rMK8 hM, rMK9 hM, rMK10 hM, rMK11 hM, rMK12 hM, rMK13 hM, rMK14 hM, rMK15 hM, rMK16 hM, rMK17 hM, rMK18 hM, rMK19 hM, rMK20 hM, rMK21 hM, rMK22 hM, rMK23 hM, rMK24 hM, rMK25 hM, rMK26 hM, rMK27 hM, rMK28 hM, rMK29 hM, rMK30 hM, rMK31 hM, rMK32 hM, rMK33 hM, rMK34 hM, rMK35 hM, rMK36 hM, rMK37 hM, rMK38 hM, rMK39 hM, rMK40 hM, rMK41 hM, rMK42 hM, rMK43 hM, rMK44 hM, rMK45 hM, rMK46 hM, rMK47 hM, rMK48 hM, rMK49 hM, rMK50 hM, rMK51 hM, kMK0, kMK1, kMK2, kMK3, kMK4, kMK5, kMK6, kMK7, kMK8, kMK9, kMK10, kMK11, kMK12, kMK13, kMK14, kMK15, kMK16, kMK17, kMK18, kMK19, kMK20, kMK21, kMK22, kMK23, kMK24, kMK25, kMK26, kMK27, kMK28, kMK29, kMK30, kMK31, kMK32, kMK33, kMK34, kMK35, kMK36, kMK37, kMK38, kMK39, kMK40, kMK41, kMK42, kMK43, kMK44, kMK45, kMK46, kMK47, kMK48, kMK49, kMK50, kMK51, kMK52, kMK53, kMK54, kMK55, kMK56, kMK57, kMK58, kMK59, kMK60, kMK61, kMK62, kMK63, kMK64, kMK65, kMK66, kMK67, kMK68, kMK69, kMK70, kMK71, kMK72, kMK73, kMK74, kMK75, kMK76, kMK77, kMK78, kMK79, kMK80, kMK81, kMK82, kMK83, kMK84, kMK85, kMK86, kMK87, kMK88, kMK89, kMK90, kMK91, kMK92, kMK93, kMK94, kMK95, kMK96, kMK97, kMK98, kMK99, kMK100, kMK101, kMK102, kMK103, kMK104, IP, if_true, if_false]
theorem zmfree_rows (w : zM) (p : Int) : zmfree w p 104 = zrw (w 104) p (-4) ∧ zmfree w p 110 = (if w 104 p = -4 then w 110 else zrw (w 110) (w 104 p) (-4)) ∧ zmfree w p 111 = (if w 104 p = -4 then w 111 else zrw (w 111) (w 104 p) 1) ∧ ∀ b, b ≠ 104 → b ≠ 110 → b ≠ 111 → zmfree w p b = w b := by
  unfold zmfree
  by_cases c : w 104 p = -4
  · rw [if_pos c, if_pos c, if_pos c]
    exact ⟨zpr_at _ _ _, zpr_ne (by decide), zpr_ne (by decide), fun b b1 b2 b3 => zpr_ne b1⟩
  · rw [if_neg c, if_neg c, if_neg c]
    refine ⟨zpr_at _ _ _, by rw [zpr_ne (by decide), zpr_at], by rw [zpr_ne (by decide), zpr_ne (by decide), zpr_at], fun b b1 b2 b3 => by rw [zpr_ne b1, zpr_ne b2, zpr_ne b3]⟩
theorem zlvo_rows (m : zM) (r : Int) : zlvo m 2 r 16 = zrw (m 16) r (-4) ∧ zlvo m 2 r 17 = zrw (m 17) r 1 ∧ ∀ b, b ≠ 16 → b ≠ 17 → zlvo m 2 r b = m b := by
  unfold zlvo
  simp only [Int.reduceAdd]
  exact ⟨by rw [zpr_ne (by decide), zpr_at], zpr_at _ _ _, fun b b1 b2 => by rw [zpr_ne b2, zpr_ne b1]⟩
/-- a use put by the class; the model's -/
theorem tz_guse (hT2 : TK R 2) (hGK : GK R) (hAK : AK R) (hT : TR m m 2) (ha : 0 ≤ m 58 0 ∧ m 58 0 < 60) (hp : 0 ≤ p ∧ p < mN m) (hg : 0 ≤ g ∧ g ≤ 3) (hu : g = 0 ∨ m 101 p = 0) : ∃ y : zM, ev 184 0 [(2, 1), (0, p), (0, g)] [] R m = some ((0, m 103 p), R, y) ∧ (∀ b, 58 ≤ b → b ≤ 61 → y b = zkeep m 2 (m 2 3) p g b) ∧ (∀ b, b ≠ 6 → b ≠ 7 → b ≠ 16 → b ≠ 17 → (b < 58 ∨ 61 < b) → y b = m b) ∧ ∃ m1 : zM, (((∀ s, 0 ≤ s → s < m (2 + 9) 0 → m (2 + 14) s ≠ p) ∧ m1 = m) ∨ ∃ r, 0 ≤ r ∧ r < m (2 + 9) 0 ∧ m (2 + 14) r = p ∧ (∀ s, 0 ≤ s → s < r → m (2 + 14) s ≠ p) ∧ m1 = zlvo m 2 r) ∧ ∀ a, 2 ≤ a → a ≤ 19 → y a = zuput m1 (2 + 1) p g a := by
  have H := tz_has (m := m) (TK_B3 hT2) p
  rw [TR_n3 hT, if_pos hp] at H
  have W := tz_within g 0 3 R m
  rw [if_pos hg] at W
  obtain ⟨g1, g2, g3⟩ := TR_g hT hp
  have nc := TR_nc hT
  have CU : ev 116 0 [(2, 2), (0, p), (0, g)] [] R m = some ((0, if g = 0 ∨ m 4 p = 0 then 1 else 0), R, m) := tz_canUse hT2 (TR_V3 hT) g (by show 0 ≤ p ∧ p < m 3 2; rw [TR_n3 hT]; exact hp)
  rw [g1, if_pos hu] at CU
  have AF := tz_afull (R := R) (m := m) hAK
  rw [if_neg (by omega)] at AF
  have KP := tz_keep (R := R) (m := m) hAK ha 2 (m 2 3) p g
  obtain ⟨k59, k60, k58, k61, ko⟩ := zkeep_rows m 2 (m 2 3) p g
  obtain ⟨z, hz⟩ : ∃ z, zkeep m 2 (m 2 3) p g = z := ⟨_, rfl⟩
  rw [hz] at KP ko
  have zo : ∀ b, b < 58 → z b = m b := fun b hb => ko b (by omega)
  have hVz : BV z 3 := (BT_fr (m := m) (m' := z) (o := 3) (fun a a0 a1 => zo a (by omega)) (TR_V3 hT) hT.1.1.2.2).1
  obtain ⟨m1, e1, h1⟩ := tz_tputUse (R := R) (m := z) (p := p) (g := g) hT2 hVz (by show 0 ≤ z 11 0 ∧ z 11 0 ≤ 20; rw [zo 11 (by omega), nc.1]; exact nc.2) (by show 0 ≤ p ∧ p < z 3 2; rw [zo 3 (by omega), TR_n3 hT]; exact hp) hg
  simp only [Int.reduceAdd] at e1 h1
  rw [zo 6 (by omega), g3] at e1
  obtain ⟨u3, u4, ur⟩ := zuput_rows m1 3 p g
  simp only [Int.reduceAdd] at u3 u4 ur
  refine ⟨zuput m1 3 p g, ?_, ?_, ?_, ?_⟩
  · simp only [s184_0, s184_1, s184_4, s184_7, s184_8, s184_11, s184_14, s184_15, s184_16, s184_17, s184_20, s184_23, s184_24, s184_25, s184_26, s184_29, s184_30, s184_31, s184_34, s184_37, s184_39, s184_40, s184_41, s184_44, s184_47, s184_50, s184_52, s184_53, s184_54, s184_57, s184_58, s184_59, s184_62, s184_65, s184_66, s184_67, s184_70, s184_71, s184_74, s184_75, s184_76, s184_79, zps_0, zps_1, zps_2, zps_3, zps_9, Option.bind_some, Option.bind_none, Int.reduceEq, Int.reduceNe, Int.reduceLT, Int.reduceLE, Int.reduceNeg, Int.reduceAdd, Int.reduceSub, Int.reduceMul, reduceIte, if_true, if_false, true_and, and_true, false_and, and_false, or_true, true_or, or_false, false_or, not_true_eq_false, not_false_eq_true, ite_not, z_b0, z_b1, z_b01, rGK0 hGK, rGK1 hGK, rGK2 hGK, rGK3 hGK, rGK4 hGK, rGK5 hGK, rGK6 hGK, rGK7 hGK, rGK8 hGK, rGK9 hGK, kGK0, kd2, kd3, kd9, kd11, r2_0 hT2, r2_1 hT2, r2_2 hT2, kAK0, H, W, CU, AF, KP, e1, if_true, if_false]
  · intro b b0 b1
    rw [ur b (by omega) (by omega), hz]
    rcases h1 with ⟨-, q⟩ | ⟨r, -, -, -, -, q⟩
    · rw [q]
    · rw [q, zpr_ne (by omega), zpr_ne (by omega)]
  · intro b b1 b2 b3 b4 b5
    rw [ur b b1 b2]
    rcases h1 with ⟨-, q⟩ | ⟨r, -, -, -, -, q⟩
    · rw [q, ko b b5]
    · rw [q, zpr_ne b4, zpr_ne b3, ko b b5]
  · simp only [Int.reduceAdd]
    rcases h1 with ⟨q0, q⟩ | ⟨r, r0, r1, r2, r3, q⟩
    · refine ⟨m, Or.inl ⟨fun s s0 s1 => by have := q0 s s0 (by rw [zo 11 (by omega)]; exact s1); rw [zo 16 (by omega)] at this; exact this, rfl⟩, fun a a0 a1 => ?_⟩
      obtain ⟨v3, v4, vr⟩ := zuput_rows m 3 p g
      simp only [Int.reduceAdd] at v3 v4 vr
      by_cases e6 : a = 6
      · rw [e6, u3, v3, q, zo 6 (by omega)]
      · by_cases e7 : a = 7
        · rw [e7, u4, v4, q, zo 6 (by omega), zo 7 (by omega)]
        · rw [ur a e6 e7, vr a e6 e7, q, zo a (by omega)]
    · rw [zo 11 (by omega)] at r1
      rw [zo 16 (by omega)] at r2
      refine ⟨zlvo m 2 r, Or.inr ⟨r, r0, r1, r2, fun s s0 s1 => by have := r3 s s0 s1; rw [zo 16 (by omega)] at this; exact this, rfl⟩, fun a a0 a1 => ?_⟩
      obtain ⟨v3, v4, vr⟩ := zuput_rows (zlvo m 2 r) 3 p g
      simp only [Int.reduceAdd] at v3 v4 vr
      obtain ⟨l16, l17, lo⟩ := zlvo_rows m r
      have m1o : ∀ b, b ≠ 16 → b ≠ 17 → m1 b = z b := fun b b1 b2 => by rw [q, zpr_ne b2, zpr_ne b1]
      by_cases e6 : a = 6
      · rw [e6, u3, v3, m1o 6 (by decide) (by decide), lo 6 (by decide) (by decide), zo 6 (by omega)]
      · by_cases e7 : a = 7
        · rw [e7, u4, v4, m1o 6 (by decide) (by decide), lo 6 (by decide) (by decide), zo 6 (by omega), m1o 7 (by decide) (by decide), lo 7 (by decide) (by decide), zo 7 (by omega)]
        · rw [ur a e6 e7, vr a e6 e7]
          by_cases e16 : a = 16
          · rw [e16, l16, q, zpr_ne (by decide), zpr_at, zo 16 (by omega)]
          · by_cases e17 : a = 17
            · rw [e17, l17, q, zpr_at, zo 17 (by omega)]
            · rw [m1o a e16 e17, lo a e16 e17, zo a (by omega)]
end USE
