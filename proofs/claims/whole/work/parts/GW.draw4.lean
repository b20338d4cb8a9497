/-! draw -/
section DRAW4
variable {R m x y c w : zM} {k a f n L p g h S0 K : Int} {D G H U : Int → Int}
theorem dCl_at (h : dCl R m k f n D) (hR : RA R m) (hx : DI R m x a p p) : dCl R (zjn x m) k f n D := by
  obtain ⟨hK, hV, hn, hn2, hk, hL, hf, hD⟩ := h
  have r : ∀ b, 97 ≤ b → b ≤ 99 → zjn x m b = m b := fun b b0 b1 => by
    rw [zjn_lo (by omega)]
    exact hx.2.2.2.2.1 b (by omega) (by omega) (by omega) (by omega) (by omega) (by omega) (by omega) (by omega) (by omega)
  have hT := hx.1.1
  refine ⟨hK, ?_, ?_, hn2, hk, by rw [r 97 (by decide) (by decide)]; exact hL, hf, fun j j0 j1 => by rw [r 97 (by decide) (by decide), r 99 (by decide) (by decide)]; exact hD j j0 j1⟩
  · exact (BT_fr (m := x) (m' := zjn x m) (o := 3) (fun a a0 a1 => zjn_lo (by omega)) (TR_V3 hT) hT.1.1.2.2).1
  · rw [zjn_lo (by decide), TR_n3 hT, DI_N hx, ← TR_n3 hR.1]
    exact hn
theorem tz_drawP (hAK : AK R) (h : dCl R m k f n D) (hR : RA R m) (ho : dOk D m n) (hC : 0 ≤ m 3 3 ∧ m 3 3 < 1000000) : ev 225 0 [(2, 1), (0, k), (0, f), (9, 0), (9, 0), (9, 0), (9, 0)] [] R m = some ((0, zsum (dOth D (m 101) (m 102)) n.toNat), R, zjn (dSeq D m n.toNat) m) := by
  have h' := h
  obtain ⟨⟨hT2, hGK, hCK⟩, hV, hn, hn2, hk, hL, hf, hD⟩ := h'
  have a0 := hR.2.1
  have L0 : ev 225 0 [(2, 1), (0, k), (0, f), (9, 0), (9, 0), (9, 0), (9, 0)] [] R m = ev 225 5 [(2, 1), (0, k), (0, f), (0, 0), (0, 0), (9, 0), (9, 0)] [] R (zjn (dSeq D m 0) m) := by
    rw [show zjn (dSeq D m 0) m = m from zjn_self m]
    simp only [s225_0, s225_1, s225_2, s225_3, s225_7, s225_8, s225_11, s225_14, s225_17, s225_20, s225_21, s225_22, s225_23, s225_25, s225_28, s225_30, s225_31, s225_32, s225_33, s225_35, s225_38, s225_40, s225_42, s225_45, s225_46, s225_48, s225_49, s225_52, s225_53, s225_54, s225_55, s225_57, s225_58, s225_59, s225_62, s225_65, s225_66, s225_68, s225_71, s225_72, s225_74, s225_75, s225_78, s225_79, s225_80, s225_81, s225_83, s225_84, s225_85, s225_86, s225_87, s225_90, s225_93, s225_94, s225_96, s225_99, s225_101, s225_104, s225_107, s225_110, s225_113, s225_114, zps_0, zps_1, zps_2, zps_3, zps_9, Option.bind_some, Option.bind_none, Int.reduceEq, Int.reduceNe, Int.reduceLT, Int.reduceLE, Int.reduceNeg, Int.reduceAdd, Int.reduceSub, Int.reduceMul, reduceIte, if_true, if_false, true_and, and_true, false_and, and_false, or_true, true_or, or_false, false_or, not_true_eq_false, not_false_eq_true, ite_not, z_b0, z_b1, z_b01]
  rw [L0]
  refine zloop (fun r => r = some ((0, zsum (dOth D (m 101) (m 102)) n.toNat), R, zjn (dSeq D m n.toNat) m)) (fun i (s : Int × zV × zV) => ev 225 5 [(2, 1), (0, k), (0, f), (0, s.1), (0, i), s.2.1, s.2.2] [] R (zjn (dSeq D m i.toNat) m)) n (fun i s => 0 ≤ i ∧ s.1 = zsum (dOth D (m 101) (m 102)) i.toNat) ?_ ?_ 0 (0, (9, 0), (9, 0)) (by omega) ⟨by omega, rfl⟩
  · rintro i ⟨s, l5, l6⟩ hi ⟨i0, hI⟩ ih
    dsimp only at hI ih ⊢
    have DQ := DI_seq ho hR i.toNat (by omega)
    rw [Int.toNat_of_nonneg i0] at DQ
    rw [dSeq_s D m i0] at ih
    obtain ⟨x, hx⟩ : ∃ x, dSeq D m i.toNat = x := ⟨_, rfl⟩
    rw [hx] at DQ ih ⊢
    have Cx := dCl_at h hR DQ
    have NG := tz_dng Cx (p := i) ⟨i0, hi⟩
    have NH := tz_dnh Cx (p := i) ⟨i0, hi⟩
    have e1 := DQ.2.2.1 i (Int.le_refl _)
    have e2 := DQ.2.2.2.1 i (Int.le_refl _)
    have hT := DQ.1.1
    have hpN : 0 ≤ i ∧ i < mN m := by rw [ho.1]; exact ⟨i0, hi⟩
    have hpx : 0 ≤ i ∧ i < mN x := by rw [DI_N DQ]; exact hpN
    obtain ⟨g1, g2, -⟩ := TR_g hT hpx
    rw [zjn_lo (by decide), g1, e1] at NG
    rw [zjn_lo (by decide), g2, e2] at NH
    have c1 : ¬ n ≤ i := by omega
    have z1 : zw (2 * i) = 2 * i := zw_i (by omega) (by omega)
    have z4 : zw (i + 1) = i + 1 := zw_i (by omega) (by omega)
    have sb := zsum_bd (f := dOth D (m 101) (m 102)) (n := i.toNat) (lo := 0) (hi := 1) (fun k _ _ => dOth_bd k)
    rw [← hI] at sb
    have z5 : zw (s + 1) = s + 1 := zw_i (by omega) (by omega)
    have st := zsum_step (dOth D (m 101) (m 102)) i0
    obtain ⟨zA, CA⟩ := dCl_cell Cx (j := 2 * i) (by omega) (by omega)
    have d1 := (hD (2 * i + 1) (by omega) (by omega)).1
    have zB : zw (f + 2 * i + 1) = f + (2 * i + 1) := by rw [zw_i (by omega) (by omega)]; omega
    have n32 : zjn x m 3 2 = n := Cx.2.2.1
    obtain ⟨b1, b2⟩ := dOk_g ho (p := i) ⟨i0, hi⟩
    have lt := dOk_lt ho (p := i) ⟨i0, hi⟩
    have as0 := zsum_bd (f := dAct D (m 101) (m 102)) (n := i.toNat) (lo := 0) (hi := 2) (fun k _ _ => dAct_bd k)
    have x19 := DQ.2.1.1
    have x33 := DQ.2.1.2
    have hA := DQ.1.2
    have x58 : x 58 0 = x 100 19 := hA.2.1
    obtain ⟨aN, haN⟩ : ∃ q, zsum (dAct D (m 101) (m 102)) i.toNat = q := ⟨_, rfl⟩
    rw [haN] at lt as0 x19 x33 DQ
    have nref : D (2 * i) = m 101 i ∨ m 103 i = 0 := by
      by_cases q : D (2 * i) = m 101 i
      · left; exact q
      · right
        by_cases q2 : m 103 i = 0
        · exact q2
        · exact absurd ⟨i, i0, hi, q, q2⟩ ho.2.2.1
    have x103 : x 103 = m 103 := DQ.2.2.2.2.1 103 (by decide) (by decide) (by decide) (by decide) (by omega) (by decide) (by decide) (by decide) (by omega)
    by_cases q1 : D (2 * i) = m 101 i
    · rw [if_pos q1] at NG
      by_cases q2 : D (2 * i + 1) = m 102 i
      · rw [if_pos q2] at NH
        have eS : dS D x i = x := by unfold dS; rw [e1, if_pos q1]; dsimp only; rw [e2, if_pos q2]
        rw [eS] at ih
        have := ih (s, (0, 0), (0, 0)) ⟨by omega, by rw [st, ← hI]; unfold dOth; rw [if_pos ⟨q1, q2⟩]; omega⟩
        dsimp only at this
        rw [← this, s225_5]
        simp only [s225_0, s225_1, s225_2, s225_3, s225_7, s225_8, s225_11, s225_14, s225_17, s225_20, s225_21, s225_22, s225_23, s225_25, s225_28, s225_30, s225_31, s225_32, s225_33, s225_35, s225_38, s225_40, s225_42, s225_45, s225_46, s225_48, s225_49, s225_52, s225_53, s225_54, s225_55, s225_57, s225_58, s225_59, s225_62, s225_65, s225_66, s225_68, s225_71, s225_72, s225_74, s225_75, s225_78, s225_79, s225_80, s225_81, s225_83, s225_84, s225_85, s225_86, s225_87, s225_90, s225_93, s225_94, s225_96, s225_99, s225_101, s225_104, s225_107, s225_110, s225_113, s225_114, zps_0, zps_1, zps_2, zps_3, zps_9, Option.bind_some, Option.bind_none, Int.reduceEq, Int.reduceNe, Int.reduceLT, Int.reduceLE, Int.reduceNeg, Int.reduceAdd, Int.reduceSub, Int.reduceMul, reduceIte, if_true, if_false, true_and, and_true, false_and, and_false, or_true, true_or, or_false, false_or, not_true_eq_false, not_false_eq_true, ite_not, z_b0, z_b1, z_b01, rGK0 hGK, rGK1 hGK, rGK2 hGK, rGK3 hGK, rGK4 hGK, rGK5 hGK, rGK6 hGK, rGK7 hGK, rGK8 hGK, rGK9 hGK, kGK0, kd2, kd3, kd9, kd11, r2_0 hT2, r2_1 hT2, r2_2 hT2, n32, c1, NG, NH, z4, if_true, if_false]
      · rw [if_neg q2] at NH
        have da : dAct D (m 101) (m 102) i = 1 := by unfold dAct; rw [if_pos q1, if_neg q2]; rfl
        have eS : dS D x i = opH x i (D (2 * i + 1)) := by unfold dS; rw [e1, if_pos q1]; dsimp only; rw [e2, if_neg q2]
        rw [eS] at ih
        obtain ⟨-, CB⟩ := dCl_cell Cx (j := 2 * i + 1) (by omega) (by omega)
        have GH := tz_gheight2 (R := R) (c := zjn x m) (g := D (2 * i + 1)) hT2 hGK hAK hT (fun b hb => zjn_lo hb) (by omega) hpx b2 (by omega)
        rw [opH_c] at GH
        have := ih (s + 1, (0, 0), (0, 1)) ⟨by omega, by rw [st, ← hI]; unfold dOth; rw [if_neg (fun z => q2 z.2)]⟩
        dsimp only at this
        rw [← this, s225_5]
        simp only [s225_0, s225_1, s225_2, s225_3, s225_7, s225_8, s225_11, s225_14, s225_17, s225_20, s225_21, s225_22, s225_23, s225_25, s225_28, s225_30, s225_31, s225_32, s225_33, s225_35, s225_38, s225_40, s225_42, s225_45, s225_46, s225_48, s225_49, s225_52, s225_53, s225_54, s225_55, s225_57, s225_58, s225_59, s225_62, s225_65, s225_66, s225_68, s225_71, s225_72, s225_74, s225_75, s225_78, s225_79, s225_80, s225_81, s225_83, s225_84, s225_85, s225_86, s225_87, s225_90, s225_93, s225_94, s225_96, s225_99, s225_101, s225_104, s225_107, s225_110, s225_113, s225_114, zps_0, zps_1, zps_2, zps_3, zps_9, Option.bind_some, Option.bind_none, Int.reduceEq, Int.reduceNe, Int.reduceLT, Int.reduceLE, Int.reduceNeg, Int.reduceAdd, Int.reduceSub, Int.reduceMul, reduceIte, if_true, if_false, true_and, and_true, false_and, and_false, or_true, true_or, or_false, false_or, not_true_eq_false, not_false_eq_true, ite_not, z_b0, z_b1, z_b01, rGK0 hGK, rGK1 hGK, rGK2 hGK, rGK3 hGK, rGK4 hGK, rGK5 hGK, rGK6 hGK, rGK7 hGK, rGK8 hGK, rGK9 hGK, kGK0, kd2, kd3, kd9, kd11, r2_0 hT2, r2_1 hT2, r2_2 hT2, rCK0 hCK, rCK1 hCK, rCK2 hCK, kCK0, kCK1, kCK2, kCK3, kCK4, kCK5, kCK6, n32, c1, NG, NH, z1, zA, zB, CB, GH, z4, z5, if_true, if_false]
    · rw [if_neg q1] at NG
      have u0 := nref.resolve_left q1
      have da1 : 1 ≤ dAct D (m 101) (m 102) i := by unfold dAct; rw [if_neg q1]; split <;> omega
      have GG := tz_gground2 (R := R) (c := zjn x m) (g := D (2 * i)) hT2 hGK hAK hT (fun b hb => zjn_lo hb) (by omega) hpx b1 (by rw [x103]; exact u0) (by omega)
      rw [opG_c] at GG
      have DY := DI_g DQ (by omega) hpN b1 (Int.le_refl _)
      have e3 := DY.2.2.2.1 i (Int.le_refl _)
      by_cases q2 : D (2 * i + 1) = m 102 i
      · rw [if_pos q2] at NH
        have eS : dS D x i = opG x i (D (2 * i)) := by unfold dS; rw [e1, if_neg q1]; dsimp only; rw [e3, if_pos q2]
        rw [eS] at ih
        have := ih (s + 1, (0, 1), (0, 0)) ⟨by omega, by rw [st, ← hI]; unfold dOth; rw [if_neg (fun z => q1 z.1)]⟩
        dsimp only at this
        rw [← this, s225_5]
        simp only [s225_0, s225_1, s225_2, s225_3, s225_7, s225_8, s225_11, s225_14, s225_17, s225_20, s225_21, s225_22, s225_23, s225_25, s225_28, s225_30, s225_31, s225_32, s225_33, s225_35, s225_38, s225_40, s225_42, s225_45, s225_46, s225_48, s225_49, s225_52, s225_53, s225_54, s225_55, s225_57, s225_58, s225_59, s225_62, s225_65, s225_66, s225_68, s225_71, s225_72, s225_74, s225_75, s225_78, s225_79, s225_80, s225_81, s225_83, s225_84, s225_85, s225_86, s225_87, s225_90, s225_93, s225_94, s225_96, s225_99, s225_101, s225_104, s225_107, s225_110, s225_113, s225_114, zps_0, zps_1, zps_2, zps_3, zps_9, Option.bind_some, Option.bind_none, Int.reduceEq, Int.reduceNe, Int.reduceLT, Int.reduceLE, Int.reduceNeg, Int.reduceAdd, Int.reduceSub, Int.reduceMul, reduceIte, if_true, if_false, true_and, and_true, false_and, and_false, or_true, true_or, or_false, false_or, not_true_eq_false, not_false_eq_true, ite_not, z_b0, z_b1, z_b01, rGK0 hGK, rGK1 hGK, rGK2 hGK, rGK3 hGK, rGK4 hGK, rGK5 hGK, rGK6 hGK, rGK7 hGK, rGK8 hGK, rGK9 hGK, kGK0, kd2, kd3, kd9, kd11, r2_0 hT2, r2_1 hT2, r2_2 hT2, rCK0 hCK, rCK1 hCK, rCK2 hCK, kCK0, kCK1, kCK2, kCK3, kCK4, kCK5, kCK6, n32, c1, NG, NH, z1, zA, CA, GG, z4, z5, if_true, if_false]
      · rw [if_neg q2] at NH
        have da : dAct D (m 101) (m 102) i = 2 := by unfold dAct; rw [if_neg q1, if_neg q2]; rfl
        obtain ⟨z, hz⟩ : ∃ z, opG x i (D (2 * i)) = z := ⟨_, rfl⟩
        rw [hz] at GG DY e3
        have eS : dS D x i = opH z i (D (2 * i + 1)) := by unfold dS; rw [e1, if_neg q1, hz]; dsimp only; rw [e3, if_neg q2]
        rw [eS] at ih
        have DZ := DI_w DY (Int.le_refl _) (show i ≤ i + 1 by omega)
        have Cz := dCl_at h hR DZ
        obtain ⟨-, CB⟩ := dCl_cell Cz (j := 2 * i + 1) (by omega) (by omega)
        have z19 := DY.2.1.1
        have z33 := DY.2.1.2
        have z58 : z 58 0 = z 100 19 := DY.1.2.2.1
        have GH := tz_gheight2 (R := R) (c := zjn z m) (g := D (2 * i + 1)) hT2 hGK hAK DY.1.1 (fun b hb => zjn_lo hb) (by omega) (by rw [DI_N DY]; exact hpN) b2 (by omega)
        rw [opH_c] at GH
        have := ih (s + 1, (0, 1), (0, 1)) ⟨by omega, by rw [st, ← hI]; unfold dOth; rw [if_neg (fun z => q1 z.1)]⟩
        dsimp only at this
        rw [← this, s225_5]
        simp only [s225_0, s225_1, s225_2, s225_3, s225_7, s225_8, s225_11, s225_14, s225_17, s225_20, s225_21, s225_22, s225_23, s225_25, s225_28, s225_30, s225_31, s225_32, s225_33, s225_35, s225_38, s225_40, s225_42, s225_45, s225_46, s225_48, s225_49, s225_52, s225_53, s225_54, s225_55, s225_57, s225_58, s225_59, s225_62, s225_65, s225_66, s225_68, s225_71, s225_72, s225_74, s225_75, s225_78, s225_79, s225_80, s225_81, s225_83, s225_84, s225_85, s225_86, s225_87, s225_90, s225_93, s225_94, s225_96, s225_99, s225_101, s225_104, s225_107, s225_110, s225_113, s225_114, zps_0, zps_1, zps_2, zps_3, zps_9, Option.bind_some, Option.bind_none, Int.reduceEq, Int.reduceNe, Int.reduceLT, Int.reduceLE, Int.reduceNeg, Int.reduceAdd, Int.reduceSub, Int.reduceMul, reduceIte, if_true, if_false, true_and, and_true, false_and, and_false, or_true, true_or, or_false, false_or, not_true_eq_false, not_false_eq_true, ite_not, z_b0, z_b1, z_b01, rGK0 hGK, rGK1 hGK, rGK2 hGK, rGK3 hGK, rGK4 hGK, rGK5 hGK, rGK6 hGK, rGK7 hGK, rGK8 hGK, rGK9 hGK, kGK0, kd2, kd3, kd9, kd11, r2_0 hT2, r2_1 hT2, r2_2 hT2, rCK0 hCK, rCK1 hCK, rCK2 hCK, kCK0, kCK1, kCK2, kCK3, kCK4, kCK5, kCK6, n32, c1, NG, NH, z1, zA, zB, CA, CB, GG, GH, z4, z5, if_true, if_false]
  · rintro ⟨s, l5, l6⟩ ⟨-, hI⟩
    dsimp only at hI ⊢
    have DQ := DI_seq ho hR n.toNat (by omega)
    rw [Int.toNat_of_nonneg (by omega)] at DQ
    have n32 : zjn (dSeq D m n.toNat) m 3 2 = n := (dCl_at h hR DQ).2.2.1
    rw [s225_5]
    simp only [s225_0, s225_1, s225_2, s225_3, s225_7, s225_8, s225_11, s225_14, s225_17, s225_20, s225_21, s225_22, s225_23, s225_25, s225_28, s225_30, s225_31, s225_32, s225_33, s225_35, s225_38, s225_40, s225_42, s225_45, s225_46, s225_48, s225_49, s225_52, s225_53, s225_54, s225_55, s225_57, s225_58, s225_59, s225_62, s225_65, s225_66, s225_68, s225_71, s225_72, s225_74, s225_75, s225_78, s225_79, s225_80, s225_81, s225_83, s225_84, s225_85, s225_86, s225_87, s225_90, s225_93, s225_94, s225_96, s225_99, s225_101, s225_104, s225_107, s225_110, s225_113, s225_114, zps_0, zps_1, zps_2, zps_3, zps_9, Option.bind_some, Option.bind_none, Int.reduceEq, Int.reduceNe, Int.reduceLT, Int.reduceLE, Int.reduceNeg, Int.reduceAdd, Int.reduceSub, Int.reduceMul, reduceIte, if_true, if_false, true_and, and_true, false_and, and_false, or_true, true_or, or_false, false_or, not_true_eq_false, not_false_eq_true, ite_not, z_b0, z_b1, z_b01, rGK0 hGK, rGK1 hGK, rGK2 hGK, rGK3 hGK, rGK4 hGK, rGK5 hGK, rGK6 hGK, rGK7 hGK, rGK8 hGK, rGK9 hGK, kGK0, kd2, kd3, kd9, kd11, r2_0 hT2, r2_1 hT2, r2_2 hT2, n32, Int.le_refl, if_true, hI]
theorem tz_mdrawP (h : dCm R m k f n D) (hR : RA R m) (ho : dOk D m n) (y : zM) (v5 v6 v7 : Int) (u9 u10 : zV) : ev 317 340 [(2, 100), (0, k), (0, a), (0, f), (0, 128 * k + f), (0, v5), (0, v6), (0, v7), (0, 0), u9, u10] [] R (zjn y m) = some ((0, v6), R, zjn y (dSeq D m n.toNat)) := by
  obtain ⟨hM, hV, hn, hk, hf, hD⟩ := h
  have hn2 := MV_n hV
  rw [hn] at hn2
  have a0 := hR.2.1
  rw [show zjn y m = zjn y (dSeq D m (0 : Int).toNat) from rfl]
  refine zloop (fun r => r = some ((0, v6), R, zjn y (dSeq D m n.toNat))) (fun i (_ : Unit) => ev 317 340 [(2, 100), (0, k), (0, a), (0, f), (0, 128 * k + f), (0, v5), (0, v6), (0, v7), (0, i), u9, u10] [] R (zjn y (dSeq D m i.toNat))) n (fun i _ => 0 ≤ i) ?_ ?_ 0 () (by omega) (by omega)
  · rintro i - hi i0 ih
    have DQ := DI_seq ho hR i.toNat (by omega)
    rw [Int.toNat_of_nonneg i0] at DQ
    rw [dSeq_s D m i0] at ih
    obtain ⟨x, hx⟩ : ∃ x, dSeq D m i.toNat = x := ⟨_, rfl⟩
    rw [hx] at DQ ih ⊢
    have e1 := DQ.2.2.1 i (Int.le_refl _)
    have e2 := DQ.2.2.2.1 i (Int.le_refl _)
    have hT := DQ.1.1
    have hpN : 0 ≤ i ∧ i < mN m := by rw [ho.1]; exact ⟨i0, hi⟩
    have VJ : ∀ {z : zM}, RA R z → MV (zjn y z) ∧ mN (zjn y z) = mN z := fun {z} hz => by
      refine ⟨?_, ?_⟩
      · unfold MV mN
        rw [zjn_hi (by decide), zjn_hi (by decide), zjn_hi (by decide), zjn_hi (by decide)]
        exact hz.1.1.2.1
      · unfold mN; rw [zjn_hi (by decide)]
    obtain ⟨Vx, Nx⟩ := VJ DQ.1
    have P := tz_plots (R := R) hM Vx
    rw [Nx, DI_N DQ, hn] at P
    have c1 : ¬ n ≤ i := by omega
    have ci : 0 ≤ i ∧ i < 64 := by omega
    have z4 : zw (i + 1) = i + 1 := zw_i (by omega) (by omega)
    obtain ⟨d1, d2⟩ := hD (2 * i) (by omega) (by omega)
    obtain ⟨d3, d4⟩ := hD (2 * i + 1) (by omega) (by omega)
    have x1 : zw (2 * i) = 2 * i := zw_i (by omega) (by omega)
    have x2 : zw (128 * k + f + 2 * i) = 128 * k + f + 2 * i := zw_i (by omega) (by omega)
    have x3 : zw (128 * k + f + 2 * i + 1) = 128 * k + f + (2 * i + 1) := by rw [zw_i (by omega) (by omega)]; omega
    have r1 : 0 ≤ 128 * k + f + 2 * i ∧ 128 * k + f + 2 * i < 512 := by omega
    have r2 : 0 ≤ 128 * k + f + (2 * i + 1) ∧ 128 * k + f + (2 * i + 1) < 512 := by omega
    have JR : ∀ {z : zM} {q pg ph : Int}, DI R m z q pg ph → zjn y z 152 = m 152 := fun {z q pg ph} hz => by
      rw [zjn_hi (by decide)]
      exact hz.2.2.2.2.1 152 (by decide) (by decide) (by decide) (by decide) (by omega) (by decide) (by decide) (by decide) (by omega)
    have j152 := JR DQ
    have j101 : zjn y x 101 i = m 101 i := by rw [zjn_hi (by decide)]; exact e1
    have j102 : zjn y x 102 i = m 102 i := by rw [zjn_hi (by decide)]; exact e2
    obtain ⟨b1, b2⟩ := dOk_g ho (p := i) ⟨i0, hi⟩
    have lt := dOk_lt ho (p := i) ⟨i0, hi⟩
    have as0 := zsum_bd (f := dAct D (m 101) (m 102)) (n := i.toNat) (lo := 0) (hi := 2) (fun k _ _ => dAct_bd k)
    have x19 := DQ.2.1.1
    obtain ⟨aN, haN⟩ : ∃ q, zsum (dAct D (m 101) (m 102)) i.toNat = q := ⟨_, rfl⟩
    rw [haN] at lt as0 x19 DQ
    have j19 : zjn y x 100 19 = m 100 19 + aN := by rw [zjn_hi (by decide)]; exact x19
    have nref : D (2 * i) = m 101 i ∨ m 103 i = 0 := by
      by_cases q : D (2 * i) = m 101 i
      · left; exact q
      · right
        by_cases q2 : m 103 i = 0
        · exact q2
        · exact absurd ⟨i, i0, hi, q, q2⟩ ho.2.2.1
    have x103 : x 103 = m 103 := DQ.2.2.2.2.1 103 (by decide) (by decide) (by decide) (by decide) (by omega) (by decide) (by decide) (by decide) (by omega)
    by_cases q1 : D (2 * i) = m 101 i
    · by_cases q2 : D (2 * i + 1) = m 102 i
      · have eS : dS D x i = x := by unfold dS; rw [e1, if_pos q1]; dsimp only; rw [e2, if_pos q2]
        rw [eS] at ih
        rw [← ih () (by omega), s317_340]
        simp only [s317_0, s317_1, s317_2, s317_3, s317_6, s317_9, s317_12, s317_13, s317_14, s317_15, s317_18, s317_21, s317_24, s317_25, s317_26, s317_27, s317_30, s317_31, s317_32, s317_33, s317_36, s317_37, s317_40, s317_41, s317_42, s317_44, s317_47, s317_49, s317_52, s317_54, s317_55, s317_56, s317_60, s317_61, s317_62, s317_65, s317_66, s317_69, s317_70, s317_71, s317_73, s317_74, s317_75, s317_76, s317_77, s317_80, s317_81, s317_82, s317_83, s317_84, s317_85, s317_88, s317_91, s317_93, s317_94, s317_95, s317_98, s317_101, s317_102, s317_103, s317_104, s317_105, s317_107, s317_108, s317_109, s317_110, s317_111, s317_113, s317_114, s317_115, s317_118, s317_121, s317_124, s317_127, s317_130, s317_133, s317_135, s317_137, s317_138, s317_139, s317_142, s317_145, s317_148, s317_149, s317_150, s317_151, s317_152, s317_154, s317_155, s317_157, s317_158, s317_160, s317_161, s317_163, s317_164, s317_168, s317_169, s317_172, s317_175, s317_176, s317_179, s317_181, s317_182, s317_184, s317_185, s317_186, s317_187, s317_188, s317_191, s317_193, s317_194, s317_197, s317_198, s317_201, s317_202, s317_204, s317_205, s317_208, s317_210, s317_211, s317_213, s317_214, s317_215, s317_216, s317_217, s317_218, s317_219, s317_222, s317_224, s317_225, s317_228, s317_229, s317_232, s317_233, s317_235, s317_237, s317_240, s317_242, s317_245, s317_246, s317_249, s317_251, s317_252, s317_255, s317_256, s317_259, s317_260, s317_262, s317_264, s317_266, s317_269, s317_270, s317_273, s317_274, s317_276, s317_279, s317_280, s317_283, s317_284, s317_285, s317_286, s317_288, s317_290, s317_292, s317_295, s317_297, s317_300, s317_301, s317_304, s317_305, s317_306, s317_308, s317_311, s317_314, s317_316, s317_319, s317_321, s317_322, s317_323, s317_326, s317_328, s317_329, s317_331, s317_334, s317_336, s317_337, s317_338, s317_342, s317_343, s317_346, s317_349, s317_350, s317_353, s317_355, s317_356, s317_358, s317_359, s317_360, s317_361, s317_362, s317_365, s317_367, s317_368, s317_371, s317_372, s317_374, s317_375, s317_378, s317_380, s317_381, s317_383, s317_384, s317_385, s317_386, s317_389, s317_390, s317_391, s317_394, s317_396, s317_397, s317_399, s317_400, s317_401, s317_402, s317_403, s317_404, s317_405, s317_408, s317_410, s317_411, s317_414, s317_415, s317_417, s317_418, s317_421, s317_423, s317_424, s317_426, s317_427, s317_428, s317_429, s317_430, s317_431, s317_434, s317_435, s317_438, s317_441, s317_443, zps_0, zps_1, zps_2, zps_3, zps_9, Option.bind_some, Option.bind_none, Int.reduceEq, Int.reduceNe, Int.reduceLT, Int.reduceLE, Int.reduceNeg, Int.reduceAdd, Int.reduceSub, Int.reduceMul, reduceIte, if_true, if_false, true_and, and_true, false_and, and_false, or_true, true_or, or_false, false_or, not_true_eq_false, not_false_eq_true, ite_not, z_b0, z_b1, z_b01, rMK0 hM, rMK1 hM, rMK2 hM, rMK3 hM, rMK4 hM, rMK5 hM, rMK6 hM, rMK7 hM, rMK8 hM, rMK9 hM, rMK10 hM, rMK11 hM, rMK12 hM, rMK13 hM, rMK14 hM, rMK15 hM, rMK16 hM, rMK17 hM, rMK18 hM, rMK19 hM, rMK20 hM, rMK21 hM, rMK22 hM, rMK23 hM, rMK24 hM, rMK25 hM, rMK26 hM, rMK27 hM, rMK28 hM, rMK29 hM, rMK30 hM, rMK31 hM, rMK32 hM, rMK33 hM, rMK34 hM, rMK35 hM, rMK36 hM, rMK37 hM, rMK38 hM, rMK39 hM, rMK40 hM, rMK41 hM, rMK42 hM, rMK43 hM, rMK44 hM, rMK45 hM, rMK46 hM, rMK47 hM, rMK48 hM, rMK49 hM, rMK50 hM, rMK51 hM, kMK0, kMK1, kMK2, kMK3, kMK4, kMK5, kMK6, kMK7, kMK8, kMK9, kMK10, kMK11, kMK12, kMK13, kMK14, kMK15, kMK16, kMK17, kMK18, kMK19, kMK20, kMK21, kMK22, kMK23, kMK24, kMK25, kMK26, kMK27, kMK28, kMK29, kMK30, kMK31, kMK32, kMK33, kMK34, kMK35, kMK36, kMK37, kMK38, kMK39, kMK40, kMK41, kMK42, kMK43, kMK44, kMK45, kMK46, kMK47, kMK48, kMK49, kMK50, kMK51, kMK52, kMK53, kMK54, kMK55, kMK56, kMK57, kMK58, kMK59, kMK60, kMK61, kMK62, kMK63, kMK64, kMK65, kMK66, kMK67, kMK68, kMK69, kMK70, kMK71, kMK72, kMK73, kMK74, kMK75, kMK76, kMK77, kMK78, kMK79, kMK80, kMK81, kMK82, kMK83, kMK84, kMK85, kMK86, kMK87, kMK88, kMK89, kMK90, kMK91, kMK92, kMK93, kMK94, kMK95, kMK96, kMK97, kMK98, kMK99, kMK100, kMK101, kMK102, kMK103, kMK104, P, c1, ci, x1, x2, x3, r1, r2, j152, d2, d4, j101, j102, q1, q2, z4, and_self, if_true, if_false]
      · have da : dAct D (m 101) (m 102) i = 1 := by unfold dAct; rw [if_pos q1, if_neg q2]; rfl
        have eS : dS D x i = opH x i (D (2 * i + 1)) := by unfold dS; rw [e1, if_pos q1]; dsimp only; rw [e2, if_neg q2]
        rw [eS] at ih
        have GH := tz_mheight (R := R) (m := zjn y x) (p := i) (g := D (2 * i + 1)) hM Vx (by rw [j19]; omega) (by rw [Nx, DI_N DQ]; exact hpN) b2
        rw [opH_m] at GH
        rw [← ih () (by omega), s317_340]
        simp only [s317_0, s317_1, s317_2, s317_3, s317_6, s317_9, s317_12, s317_13, s317_14, s317_15, s317_18, s317_21, s317_24, s317_25, s317_26, s317_27, s317_30, s317_31, s317_32, s317_33, s317_36, s317_37, s317_40, s317_41, s317_42, s317_44, s317_47, s317_49, s317_52, s317_54, s317_55, s317_56, s317_60, s317_61, s317_62, s317_65, s317_66, s317_69, s317_70, s317_71, s317_73, s317_74, s317_75, s317_76, s317_77, s317_80, s317_81, s317_82, s317_83, s317_84, s317_85, s317_88, s317_91, s317_93, s317_94, s317_95, s317_98, s317_101, s317_102, s317_103, s317_104, s317_105, s317_107, s317_108, s317_109, s317_110, s317_111, s317_113, s317_114, s317_115, s317_118, s317_121, s317_124, s317_127, s317_130, s317_133, s317_135, s317_137, s317_138, s317_139, s317_142, s317_145, s317_148, s317_149, s317_150, s317_151, s317_152, s317_154, s317_155, s317_157, s317_158, s317_160, s317_161, s317_163, s317_164, s317_168, s317_169, s317_172, s317_175, s317_176, s317_179, s317_181, s317_182, s317_184, s317_185, s317_186, s317_187, s317_188, s317_191, s317_193, s317_194, s317_197, s317_198, s317_201, s317_202, s317_204, s317_205, s317_208, s317_210, s317_211, s317_213, s317_214, s317_215, s317_216, s317_217, s317_218, s317_219, s317_222, s317_224, s317_225, s317_228, s317_229, s317_232, s317_233, s317_235, s317_237, s317_240, s317_242, s317_245, s317_246, s317_249, s317_251, s317_252, s317_255, s317_256, s317_259, s317_260, s317_262, s317_264, s317_266, s317_269, s317_270, s317_273, s317_274, s317_276, s317_279, s317_280, s317_283, s317_284, s317_285, s317_286, s317_288, s317_290, s317_292, s317_295, s317_297, s317_300, s317_301, s317_304, s317_305, s317_306, s317_308, s317_311, s317_314, s317_316, s317_319, s317_321, s317_322, s317_323, s317_326, s317_328, s317_329, s317_331, s317_334, s317_336, s317_337, s317_338, s317_342, s317_343, s317_346, s317_349, s317_350, s317_353, s317_355, s317_356, s317_358, s317_359, s317_360, s317_361, s317_362, s317_365, s317_367, s317_368, s317_371, s317_372, s317_374, s317_375, s317_378, s317_380, s317_381, s317_383, s317_384, s317_385, s317_386, s317_389, s317_390, s317_391, s317_394, s317_396, s317_397, s317_399, s317_400, s317_401, s317_402, s317_403, s317_404, s317_405, s317_408, s317_410, s317_411, s317_414, s317_415, s317_417, s317_418, s317_421, s317_423, s317_424, s317_426, s317_427, s317_428, s317_429, s317_430, s317_431, s317_434, s317_435, s317_438, s317_441, s317_443, zps_0, zps_1, zps_2, zps_3, zps_9, Option.bind_some, Option.bind_none, Int.reduceEq, Int.reduceNe, Int.reduceLT, Int.reduceLE, Int.reduceNeg, Int.reduceAdd, Int.reduceSub, Int.reduceMul, reduceIte, if_true, if_false, true_and, and_true, false_and, and_false, or_true, true_or, or_false, false_or, not_true_eq_false, not_false_eq_true, ite_not, z_b0, z_b1, z_b01, rMK0 hM, rMK1 hM, rMK2 hM, rMK3 hM, rMK4 hM, rMK5 hM, rMK6 hM, rMK7 hM, rMK8 hM, rMK9 hM, rMK10 hM, rMK11 hM, rMK12 hM, rMK13 hM, rMK14 hM, rMK15 hM, rMK16 hM, rMK17 hM, rMK18 hM, rMK19 hM, rMK20 hM, rMK21 hM, rMK22 hM, rMK23 hM, rMK24 hM, rMK25 hM, rMK26 hM, rMK27 hM, rMK28 hM, rMK29 hM, rMK30 hM, rMK31 hM, rMK32 hM, rMK33 hM, rMK34 hM, rMK35 hM, rMK36 hM, rMK37 hM, rMK38 hM, rMK39 hM, rMK40 hM, rMK41 hM, rMK42 hM, rMK43 hM, rMK44 hM, rMK45 hM, rMK46 hM, rMK47 hM, rMK48 hM, rMK49 hM, rMK50 hM, rMK51 hM, kMK0, kMK1, kMK2, kMK3, kMK4, kMK5, kMK6, kMK7, kMK8, kMK9, kMK10, kMK11, kMK12, kMK13, kMK14, kMK15, kMK16, kMK17, kMK18, kMK19, kMK20, kMK21, kMK22, kMK23, kMK24, kMK25, kMK26, kMK27, kMK28, kMK29, kMK30, kMK31, kMK32, kMK33, kMK34, kMK35, kMK36, kMK37, kMK38, kMK39, kMK40, kMK41, kMK42, kMK43, kMK44, kMK45, kMK46, kMK47, kMK48, kMK49, kMK50, kMK51, kMK52, kMK53, kMK54, kMK55, kMK56, kMK57, kMK58, kMK59, kMK60, kMK61, kMK62, kMK63, kMK64, kMK65, kMK66, kMK67, kMK68, kMK69, kMK70, kMK71, kMK72, kMK73, kMK74, kMK75, kMK76, kMK77, kMK78, kMK79, kMK80, kMK81, kMK82, kMK83, kMK84, kMK85, kMK86, kMK87, kMK88, kMK89, kMK90, kMK91, kMK92, kMK93, kMK94, kMK95, kMK96, kMK97, kMK98, kMK99, kMK100, kMK101, kMK102, kMK103, kMK104, P, c1, ci, x1, x2, x3, r1, r2, j152, d2, d4, j101, j102, q1, q2, GH, z4, and_self, if_true, if_false]
    · have u0 := nref.resolve_left q1
      have da1 : 1 ≤ dAct D (m 101) (m 102) i := by unfold dAct; rw [if_neg q1]; split <;> omega
      have GG := tz_mground (R := R) (m := zjn y x) (p := i) (g := D (2 * i)) hM Vx (by rw [j19]; omega) (by rw [Nx, DI_N DQ]; exact hpN) b1 (by rw [zjn_hi (by decide), x103]; exact u0)
      rw [opG_m] at GG
      have DY := DI_g DQ (by omega) hpN b1 (Int.le_refl _)
      have e3 := DY.2.2.2.1 i (Int.le_refl _)
      obtain ⟨z, hz⟩ : ∃ z, opG x i (D (2 * i)) = z := ⟨_, rfl⟩
      rw [hz] at GG DY e3
      have k152 := JR DY
      have k102 : zjn y z 102 i = m 102 i := by rw [zjn_hi (by decide)]; exact e3
      obtain ⟨Vz, Nz⟩ := VJ DY.1
      by_cases q2 : D (2 * i + 1) = m 102 i
      · have eS : dS D x i = z := by unfold dS; rw [e1, if_neg q1, hz]; dsimp only; rw [e3, if_pos q2]
        rw [eS] at ih
        rw [← ih () (by omega), s317_340]
        simp only [s317_0, s317_1, s317_2, s317_3, s317_6, s317_9, s317_12, s317_13, s317_14, s317_15, s317_18, s317_21, s317_24, s317_25, s317_26, s317_27, s317_30, s317_31, s317_32, s317_33, s317_36, s317_37, s317_40, s317_41, s317_42, s317_44, s317_47, s317_49, s317_52, s317_54, s317_55, s317_56, s317_60, s317_61, s317_62, s317_65, s317_66, s317_69, s317_70, s317_71, s317_73, s317_74, s317_75, s317_76, s317_77, s317_80, s317_81, s317_82, s317_83, s317_84, s317_85, s317_88, s317_91, s317_93, s317_94, s317_95, s317_98, s317_101, s317_102, s317_103, s317_104, s317_105, s317_107, s317_108, s317_109, s317_110, s317_111, s317_113, s317_114, s317_115, s317_118, s317_121, s317_124, s317_127, s317_130, s317_133, s317_135, s317_137, s317_138, s317_139, s317_142, s317_145, s317_148, s317_149, s317_150, s317_151, s317_152, s317_154, s317_155, s317_157, s317_158, s317_160, s317_161, s317_163, s317_164, s317_168, s317_169, s317_172, s317_175, s317_176, s317_179, s317_181, s317_182, s317_184, s317_185, s317_186, s317_187, s317_188, s317_191, s317_193, s317_194, s317_197, s317_198, s317_201, s317_202, s317_204, s317_205, s317_208, s317_210, s317_211, s317_213, s317_214, s317_215, s317_216, s317_217, s317_218, s317_219, s317_222, s317_224, s317_225, s317_228, s317_229, s317_232, s317_233, s317_235, s317_237, s317_240, s317_242, s317_245, s317_246, s317_249, s317_251, s317_252, s317_255, s317_256, s317_259, s317_260, s317_262, s317_264, s317_266, s317_269, s317_270, s317_273, s317_274, s317_276, s317_279, s317_280, s317_283, s317_284, s317_285, s317_286, s317_288, s317_290, s317_292, s317_295, s317_297, s317_300, s317_301, s317_304, s317_305, s317_306, s317_308, s317_311, s317_314, s317_316, s317_319, s317_321, s317_322, s317_323, s317_326, s317_328, s317_329, s317_331, s317_334, s317_336, s317_337, s317_338, s317_342, s317_343, s317_346, s317_349, s317_350, s317_353, s317_355, s317_356, s317_358, s317_359, s317_360, s317_361, s317_362, s317_365, s317_367, s317_368, s317_371, s317_372, s317_374, s317_375, s317_378, s317_380, s317_381, s317_383, s317_384, s317_385, s317_386, s317_389, s317_390, s317_391, s317_394, s317_396, s317_397, s317_399, s317_400, s317_401, s317_402, s317_403, s317_404, s317_405, s317_408, s317_410, s317_411, s317_414, s317_415, s317_417, s317_418, s317_421, s317_423, s317_424, s317_426, s317_427, s317_428, s317_429, s317_430, s317_431, s317_434, s317_435, s317_438, s317_441, s317_443, zps_0, zps_1, zps_2, zps_3, zps_9, Option.bind_some, Option.bind_none, Int.reduceEq, Int.reduceNe, Int.reduceLT, Int.reduceLE, Int.reduceNeg, Int.reduceAdd, Int.reduceSub, Int.reduceMul, reduceIte, if_true, if_false, true_and, and_true, false_and, and_false, or_true, true_or, or_false, false_or, not_true_eq_false, not_false_eq_true, ite_not, z_b0, z_b1, z_b01, rMK0 hM, rMK1 hM, rMK2 hM, rMK3 hM, rMK4 hM, rMK5 hM, rMK6 hM, rMK7 hM, rMK8 hM, rMK9 hM, rMK10 hM, rMK11 hM, rMK12 hM, rMK13 hM, rMK14 hM, rMK15 hM, rMK16 hM, rMK17 hM, rMK18 hM, rMK19 hM, rMK20 hM, rMK21 hM, rMK22 hM, rMK23 hM, rMK24 hM, rMK25 hM, rMK26 hM, rMK27 hM, rMK28 hM, rMK29 hM, rMK30 hM, rMK31 hM, rMK32 hM, rMK33 hM, rMK34 hM, rMK35 hM, rMK36 hM, rMK37 hM, rMK38 hM, rMK39 hM, rMK40 hM, rMK41 hM, rMK42 hM, rMK43 hM, rMK44 hM, rMK45 hM, rMK46 hM, rMK47 hM, rMK48 hM, rMK49 hM, rMK50 hM, rMK51 hM, kMK0, kMK1, kMK2, kMK3, kMK4, kMK5, kMK6, kMK7, kMK8, kMK9, kMK10, kMK11, kMK12, kMK13, kMK14, kMK15, kMK16, kMK17, kMK18, kMK19, kMK20, kMK21, kMK22, kMK23, kMK24, kMK25, kMK26, kMK27, kMK28, kMK29, kMK30, kMK31, kMK32, kMK33, kMK34, kMK35, kMK36, kMK37, kMK38, kMK39, kMK40, kMK41, kMK42, kMK43, kMK44, kMK45, kMK46, kMK47, kMK48, kMK49, kMK50, kMK51, kMK52, kMK53, kMK54, kMK55, kMK56, kMK57, kMK58, kMK59, kMK60, kMK61, kMK62, kMK63, kMK64, kMK65, kMK66, kMK67, kMK68, kMK69, kMK70, kMK71, kMK72, kMK73, kMK74, kMK75, kMK76, kMK77, kMK78, kMK79, kMK80, kMK81, kMK82, kMK83, kMK84, kMK85, kMK86, kMK87, kMK88, kMK89, kMK90, kMK91, kMK92, kMK93, kMK94, kMK95, kMK96, kMK97, kMK98, kMK99, kMK100, kMK101, kMK102, kMK103, kMK104, P, c1, ci, x1, x2, x3, r1, r2, j152, d2, d4, j101, k152, k102, q1, q2, GG, z4, and_self, if_true, if_false]
      · have da : dAct D (m 101) (m 102) i = 2 := by unfold dAct; rw [if_neg q1, if_neg q2]; rfl
        have eS : dS D x i = opH z i (D (2 * i + 1)) := by unfold dS; rw [e1, if_neg q1, hz]; dsimp only; rw [e3, if_neg q2]
        rw [eS] at ih
        have z19 := DY.2.1.1
        have GH := tz_mheight (R := R) (m := zjn y z) (p := i) (g := D (2 * i + 1)) hM Vz (by rw [zjn_hi (by decide), z19]; omega) (by rw [Nz, DI_N DY]; exact hpN) b2
        rw [opH_m] at GH
        rw [← ih () (by omega), s317_340]
        simp only [s317_0, s317_1, s317_2, s317_3, s317_6, s317_9, s317_12, s317_13, s317_14, s317_15, s317_18, s317_21, s317_24, s317_25, s317_26, s317_27, s317_30, s317_31, s317_32, s317_33, s317_36, s317_37, s317_40, s317_41, s317_42, s317_44, s317_47, s317_49, s317_52, s317_54, s317_55, s317_56, s317_60, s317_61, s317_62, s317_65, s317_66, s317_69, s317_70, s317_71, s317_73, s317_74, s317_75, s317_76, s317_77, s317_80, s317_81, s317_82, s317_83, s317_84, s317_85, s317_88, s317_91, s317_93, s317_94, s317_95, s317_98, s317_101, s317_102, s317_103, s317_104, s317_105, s317_107, s317_108, s317_109, s317_110, s317_111, s317_113, s317_114, s317_115, s317_118, s317_121, s317_124, s317_127, s317_130, s317_133, s317_135, s317_137, s317_138, s317_139, s317_142, s317_145, s317_148, s317_149, s317_150, s317_151, s317_152, s317_154, s317_155, s317_157, s317_158, s317_160, s317_161, s317_163, s317_164, s317_168, s317_169, s317_172, s317_175, s317_176, s317_179, s317_181, s317_182, s317_184, s317_185, s317_186, s317_187, s317_188, s317_191, s317_193, s317_194, s317_197, s317_198, s317_201, s317_202, s317_204, s317_205, s317_208, s317_210, s317_211, s317_213, s317_214, s317_215, s317_216, s317_217, s317_218, s317_219, s317_222, s317_224, s317_225, s317_228, s317_229, s317_232, s317_233, s317_235, s317_237, s317_240, s317_242, s317_245, s317_246, s317_249, s317_251, s317_252, s317_255, s317_256, s317_259, s317_260, s317_262, s317_264, s317_266, s317_269, s317_270, s317_273, s317_274, s317_276, s317_279, s317_280, s317_283, s317_284, s317_285, s317_286, s317_288, s317_290, s317_292, s317_295, s317_297, s317_300, s317_301, s317_304, s317_305, s317_306, s317_308, s317_311, s317_314, s317_316, s317_319, s317_321, s317_322, s317_323, s317_326, s317_328, s317_329, s317_331, s317_334, s317_336, s317_337, s317_338, s317_342, s317_343, s317_346, s317_349, s317_350, s317_353, s317_355, s317_356, s317_358, s317_359, s317_360, s317_361, s317_362, s317_365, s317_367, s317_368, s317_371, s317_372, s317_374, s317_375, s317_378, s317_380, s317_381, s317_383, s317_384, s317_385, s317_386, s317_389, s317_390, s317_391, s317_394, s317_396, s317_397, s317_399, s317_400, s317_401, s317_402, s317_403, s317_404, s317_405, s317_408, s317_410, s317_411, s317_414, s317_415, s317_417, s317_418, s317_421, s317_423, s317_424, s317_426, s317_427, s317_428, s317_429, s317_430, s317_431, s317_434, s317_435, s317_438, s317_441, s317_443, zps_0, zps_1, zps_2, zps_3, zps_9, Option.bind_some, Option.bind_none, Int.reduceEq, Int.reduceNe, Int.reduceLT, Int.reduceLE, Int.reduceNeg, Int.reduceAdd, Int.reduceSub, Int.reduceMul, reduceIte, if_true, if_false, true_and, and_true, false_and, and_false, or_true, true_or, or_false, false_or, not_true_eq_false, not_false_eq_true, ite_not, z_b0, z_b1, z_b01, rMK0 hM, rMK1 hM, rMK2 hM, rMK3 hM, rMK4 hM, rMK5 hM, rMK6 hM, rMK7 hM, rMK8 hM, rMK9 hM, rMK10 hM, rMK11 hM, rMK12 hM, rMK13 hM, rMK14 hM, rMK15 hM, rMK16 hM, rMK17 hM, rMK18 hM, rMK19 hM, rMK20 hM, rMK21 hM, rMK22 hM, rMK23 hM, rMK24 hM, rMK25 hM, rMK26 hM, rMK27 hM, rMK28 hM, rMK29 hM, rMK30 hM, rMK31 hM, rMK32 hM, rMK33 hM, rMK34 hM, rMK35 hM, rMK36 hM, rMK37 hM, rMK38 hM, rMK39 hM, rMK40 hM, rMK41 hM, rMK42 hM, rMK43 hM, rMK44 hM, rMK45 hM, rMK46 hM, rMK47 hM, rMK48 hM, rMK49 hM, rMK50 hM, rMK51 hM, kMK0, kMK1, kMK2, kMK3, kMK4, kMK5, kMK6, kMK7, kMK8, kMK9, kMK10, kMK11, kMK12, kMK13, kMK14, kMK15, kMK16, kMK17, kMK18, kMK19, kMK20, kMK21, kMK22, kMK23, kMK24, kMK25, kMK26, kMK27, kMK28, kMK29, kMK30, kMK31, kMK32, kMK33, kMK34, kMK35, kMK36, kMK37, kMK38, kMK39, kMK40, kMK41, kMK42, kMK43, kMK44, kMK45, kMK46, kMK47, kMK48, kMK49, kMK50, kMK51, kMK52, kMK53, kMK54, kMK55, kMK56, kMK57, kMK58, kMK59, kMK60, kMK61, kMK62, kMK63, kMK64, kMK65, kMK66, kMK67, kMK68, kMK69, kMK70, kMK71, kMK72, kMK73, kMK74, kMK75, kMK76, kMK77, kMK78, kMK79, kMK80, kMK81, kMK82, kMK83, kMK84, kMK85, kMK86, kMK87, kMK88, kMK89, kMK90, kMK91, kMK92, kMK93, kMK94, kMK95, kMK96, kMK97, kMK98, kMK99, kMK100, kMK101, kMK102, kMK103, kMK104, P, c1, ci, x1, x2, x3, r1, r2, j152, d2, d4, j101, k152, k102, q1, q2, GG, GH, z4, and_self, if_true, if_false]
  · rintro - -
    have DQ := DI_seq ho hR n.toNat (by omega)
    rw [Int.toNat_of_nonneg (by omega)] at DQ
    have Vx : MV (zjn y (dSeq D m n.toNat)) := by
      unfold MV mN
      rw [zjn_hi (by decide), zjn_hi (by decide), zjn_hi (by decide), zjn_hi (by decide)]
      exact DQ.1.1.1.2.1
    have P := tz_plots (R := R) hM Vx
    have Nx : mN (zjn y (dSeq D m n.toNat)) = n := by
      have : mN (zjn y (dSeq D m n.toNat)) = mN (dSeq D m n.toNat) := by unfold mN; rw [zjn_hi (by decide)]
      rw [this, DI_N DQ, hn]
    rw [Nx] at P
    rw [s317_340]
    simp only [s317_0, s317_1, s317_2, s317_3, s317_6, s317_9, s317_12, s317_13, s317_14, s317_15, s317_18, s317_21, s317_24, s317_25, s317_26, s317_27, s317_30, s317_31, s317_32, s317_33, s317_36, s317_37, s317_40, s317_41, s317_42, s317_44, s317_47, s317_49, s317_52, s317_54, s317_55, s317_56, s317_60, s317_61, s317_62, s317_65, s317_66, s317_69, s317_70, s317_71, s317_73, s317_74, s317_75, s317_76, s317_77, s317_80, s317_81, s317_82, s317_83, s317_84, s317_85, s317_88, s317_91, s317_93, s317_94, s317_95, s317_98, s317_101, s317_102, s317_103, s317_104, s317_105, s317_107, s317_108, s317_109, s317_110, s317_111, s317_113, s317_114, s317_115, s317_118, s317_121, s317_124, s317_127, s317_130, s317_133, s317_135, s317_137, s317_138, s317_139, s317_142, s317_145, s317_148, s317_149, s317_150, s317_151, s317_152, s317_154, s317_155, s317_157, s317_158, s317_160, s317_161, s317_163, s317_164, s317_168, s317_169, s317_172, s317_175, s317_176, s317_179, s317_181, s317_182, s317_184, s317_185, s317_186, s317_187, s317_188, s317_191, s317_193, s317_194, s317_197, s317_198, s317_201, s317_202, s317_204, s317_205, s317_208, s317_210, s317_211, s317_213, s317_214, s317_215, s317_216, s317_217, s317_218, s317_219, s317_222, s317_224, s317_225, s317_228, s317_229, s317_232, s317_233, s317_235, s317_237, s317_240, s317_242, s317_245, s317_246, s317_249, s317_251, s317_252, s317_255, s317_256, s317_259, s317_260, s317_262, s317_264, s317_266, s317_269, s317_270, s317_273, s317_274, s317_276, s317_279, s317_280, s317_283, s317_284, s317_285, s317_286, s317_288, s317_290, s317_292, s317_295, s317_297, s317_300, s317_301, s317_304, s317_305, s317_306, s317_308, s317_311, s317_314, s317_316, s317_319, s317_321, s317_322, s317_323, s317_326, s317_328, s317_329, s317_331, s317_334, s317_336, s317_337, s317_338, s317_342, s317_343, s317_346, s317_349, s317_350, s317_353, s317_355, s317_356, s317_358, s317_359, s317_360, s317_361, s317_362, s317_365, s317_367, s317_368, s317_371, s317_372, s317_374, s317_375, s317_378, s317_380, s317_381, s317_383, s317_384, s317_385, s317_386, s317_389, s317_390, s317_391, s317_394, s317_396, s317_397, s317_399, s317_400, s317_401, s317_402, s317_403, s317_404, s317_405, s317_408, s317_410, s317_411, s317_414, s317_415, s317_417, s317_418, s317_421, s317_423, s317_424, s317_426, s317_427, s317_428, s317_429, s317_430, s317_431, s317_434, s317_435, s317_438, s317_441, s317_443, zps_0, zps_1, zps_2, zps_3, zps_9, Option.bind_some, Option.bind_none, Int.reduceEq, Int.reduceNe, Int.reduceLT, Int.reduceLE, Int.reduceNeg, Int.reduceAdd, Int.reduceSub, Int.reduceMul, reduceIte, if_true, if_false, true_and, and_true, false_and, and_false, or_true, true_or, or_false, false_or, not_true_eq_false, not_false_eq_true, ite_not, z_b0, z_b1, z_b01, rMK0 hM, rMK1 hM, rMK2 hM, rMK3 hM, rMK4 hM, rMK5 hM, rMK6 hM, rMK7 hM, rMK8 hM, rMK9 hM, rMK10 hM, rMK11 hM, rMK12 hM, rMK13 hM, rMK14 hM, rMK15 hM, rMK16 hM, rMK17 hM, rMK18 hM, rMK19 hM, rMK20 hM, rMK21 hM, rMK22 hM, rMK23 hM, rMK24 hM, rMK25 hM, rMK26 hM, rMK27 hM, rMK28 hM, rMK29 hM, rMK30 hM, rMK31 hM, rMK32 hM, rMK33 hM, rMK34 hM, rMK35 hM, rMK36 hM, rMK37 hM, rMK38 hM, rMK39 hM, rMK40 hM, rMK41 hM, rMK42 hM, rMK43 hM, rMK44 hM, rMK45 hM, rMK46 hM, rMK47 hM, rMK48 hM, rMK49 hM, rMK50 hM, rMK51 hM, kMK0, kMK1, kMK2, kMK3, kMK4, kMK5, kMK6, kMK7, kMK8, kMK9, kMK10, kMK11, kMK12, kMK13, kMK14, kMK15, kMK16, kMK17, kMK18, kMK19, kMK20, kMK21, kMK22, kMK23, kMK24, kMK25, kMK26, kMK27, kMK28, kMK29, kMK30, kMK31, kMK32, kMK33, kMK34, kMK35, kMK36, kMK37, kMK38, kMK39, kMK40, kMK41, kMK42, kMK43, kMK44, kMK45, kMK46, kMK47, kMK48, kMK49, kMK50, kMK51, kMK52, kMK53, kMK54, kMK55, kMK56, kMK57, kMK58, kMK59, kMK60, kMK61, kMK62, kMK63, kMK64, kMK65, kMK66, kMK67, kMK68, kMK69, kMK70, kMK71, kMK72, kMK73, kMK74, kMK75, kMK76, kMK77, kMK78, kMK79, kMK80, kMK81, kMK82, kMK83, kMK84, kMK85, kMK86, kMK87, kMK88, kMK89, kMK90, kMK91, kMK92, kMK93, kMK94, kMK95, kMK96, kMK97, kMK98, kMK99, kMK100, kMK101, kMK102, kMK103, kMK104, P, Int.le_refl, if_true]
end DRAW4
