/-! grounds, heights: the acts -/
def RA (R m : zM) : Prop := TR m m 2 ∧ ARl R m m
def cG (m : zM) (p g : Int) : zM := zgput (zkeep m 0 (m 2 3) p g) 3 p g
def mG (w : zM) (p g : Int) : zM := zpr (zmrec w 0 p g 0 0) 101 (zrw (w 101) p g)
def cH2 (m : zM) (p g : Int) : zM := zhput (zkeep m 1 (m 2 3) p g) 3 p g
def mH (w : zM) (p g : Int) : zM := zpr (zmrec w 1 p g 0 0) 102 (zrw (w 102) p g)
section GROUND
variable {R m x : zM} {p g S0 K : Int}
theorem cG_rows (m : zM) (p g : Int) : cG m p g 3 = zrw (m 3) 3 (m 3 3 + 1) ∧ cG m p g 4 = zrw (m 4) p g ∧ cG m p g 7 = zgput m 3 p g 7 ∧ (∀ b, 58 ≤ b → b ≤ 61 → cG m p g b = zkeep m 0 (m 2 3) p g b) ∧ ∀ b, b ≠ 3 → b ≠ 4 → b ≠ 7 → (b < 58 ∨ 61 < b) → cG m p g b = m b := by
  obtain ⟨k59, k60, k58, k61, ko⟩ := zkeep_rows m 0 (m 2 3) p g
  obtain ⟨r1, r0, r4, rr⟩ := zgput_rows (zkeep m 0 (m 2 3) p g) 3 p g
  obtain ⟨-, -, q4, -⟩ := zgput_rows m 3 p g
  simp only [Int.reduceAdd] at r1 r4 rr q4
  unfold cG
  refine ⟨by rw [r0, ko 3 (by omega)], by rw [r1, ko 4 (by omega)], by rw [r4, q4, ko 7 (by omega), ko 4 (by omega)], fun b b0 b1 => rr b (by omega) (by omega) (by omega), fun b b1 b2 b3 b4 => by rw [rr b b1 b2 b3, ko b b4]⟩
theorem cH_rows (m : zM) (p g : Int) : cH2 m p g 3 = zrw (m 3) 3 (m 3 3 + 1) ∧ cH2 m p g 5 = zrw (m 5) p g ∧ (∀ b, 58 ≤ b → b ≤ 61 → cH2 m p g b = zkeep m 1 (m 2 3) p g b) ∧ ∀ b, b ≠ 3 → b ≠ 5 → (b < 58 ∨ 61 < b) → cH2 m p g b = m b := by
  obtain ⟨k59, k60, k58, k61, ko⟩ := zkeep_rows m 1 (m 2 3) p g
  obtain ⟨r1, r0, rr⟩ := zhput_rows (zkeep m 1 (m 2 3) p g) 3 p g
  simp only [Int.reduceAdd] at r1 rr
  unfold cH2
  refine ⟨by rw [r0, ko 3 (by omega)], by rw [r1, ko 5 (by omega)], fun b b0 b1 => rr b (by omega) (by omega), fun b b1 b2 b4 => by rw [rr b b1 b2, ko b b4]⟩
theorem mG_rows (w : zM) (p g : Int) : mG w p g 101 = zrw (w 101) p g ∧ (∀ b, 114 ≤ b → b ≤ 117 → mG w p g b = zmrec w 0 p g 0 0 b) ∧ mG w p g 100 = zrw (w 100) 19 (w 100 19 + 1) ∧ ∀ b, b ≠ 100 → b ≠ 101 → (b < 114 ∨ 116 < b) → mG w p g b = w b := by
  obtain ⟨r114, r115, r116, r100, ro⟩ := zmrec_rows w 0 p g 0 0
  unfold mG
  refine ⟨zpr_at _ _ _, fun b b0 b1 => zpr_ne (by omega), by rw [zpr_ne (by decide), r100], fun b b1 b2 b3 => by rw [zpr_ne b2, ro b b1 (by omega) (by omega) (by omega)]⟩
theorem mH_rows (w : zM) (p g : Int) : mH w p g 102 = zrw (w 102) p g ∧ (∀ b, 114 ≤ b → b ≤ 117 → mH w p g b = zmrec w 1 p g 0 0 b) ∧ mH w p g 100 = zrw (w 100) 19 (w 100 19 + 1) ∧ ∀ b, b ≠ 100 → b ≠ 102 → (b < 114 ∨ 116 < b) → mH w p g b = w b := by
  obtain ⟨r114, r115, r116, r100, ro⟩ := zmrec_rows w 1 p g 0 0
  unfold mH
  refine ⟨zpr_at _ _ _, fun b b0 b1 => zpr_ne (by omega), by rw [zpr_ne (by decide), r100], fun b b1 b2 b3 => by rw [zpr_ne b2, ro b b1 (by omega) (by omega) (by omega)]⟩
theorem zmrec_c {w w' : zM} (h100 : w' 100 = w 100) (h : ∀ b, 114 ≤ b → b ≤ 117 → w' b = w b) (k a b c d : Int) : ∀ q, 114 ≤ q → q ≤ 117 → zmrec w' k a b c d q = zmrec w k a b c d q := by
  obtain ⟨r1, r2, r3, r4, ro⟩ := zmrec_rows w k a b c d
  obtain ⟨s1, s2, s3, s4, so⟩ := zmrec_rows w' k a b c d
  intro q q0 q1
  rcases (show q = 114 ∨ q = 115 ∨ q = 116 ∨ q = 117 by omega) with e | e | e | e <;> subst e
  · rw [s1, r1, h100, h 114 (by omega) (by omega)]
  · rw [s2, r2, h100, h 115 (by omega) (by omega)]
  · rw [s3, r3, h100, h 116 (by omega) (by omega)]
  · rw [so 117 (by decide) (by decide) (by decide) (by decide), ro 117 (by decide) (by decide) (by decide) (by decide), h 117 (by omega) (by omega)]
theorem RA_g (h : RA R m) (ha : m 100 19 < 60) (hp : 0 ≤ p ∧ p < mN m) (hg : 0 ≤ g ∧ g ≤ 2) (hx : ∀ b, x b = mG (cG m p g) p g b) : RA R x := by
  obtain ⟨hT, hA⟩ := h
  obtain ⟨c3, c4, c7, ck, co⟩ := cG_rows m p g
  obtain ⟨m101, mk, m100, mo⟩ := mG_rows (cG m p g) p g
  have ey := (TR_y hT).1
  have y0 : 0 ≤ m 100 6 := by rw [← ey]; exact (TR_yb hT).1
  have e100 : cG m p g 100 = m 100 := co 100 (by decide) (by decide) (by decide) (by omega)
  have e101 : cG m p g 101 = m 101 := co 101 (by decide) (by decide) (by decide) (by omega)
  have g100 : ∀ k, k ≠ 19 → x 100 k = m 100 k := fun k hk => by rw [hx, m100, zrw_ne hk, e100]
  obtain ⟨q1, q0, q4, qr⟩ := zgput_rows m 3 p g
  simp only [Int.reduceAdd] at q1 q4 qr
  refine ⟨?_, ?_⟩
  · refine TR_c (m := zgput m (2 + 1) p g) (w := zpr m 101 (zrw (m 101) p g)) (fun a a0 a1 => ?_) ⟨fun a a0 a1 => ?_, ?_, ?_, ?_, ?_, ?_, ?_⟩ (TR_ground hT hp hg)
    · rw [hx, mo a (by omega) (by omega) (by omega)]
      show cG m p g a = zgput m 3 p g a
      by_cases e3 : a = 3
      · rw [e3, c3, q0]
      · by_cases e4 : a = 4
        · rw [e4, c4, q1]
        · by_cases e7 : a = 7
          · rw [e7, c7]
          · rw [co a e3 e4 e7 (by omega), qr a e3 e4 e7]
    · rw [hx]
      by_cases e : a = 101
      · rw [e, m101, zpr_at, e101]
      · rw [mo a (by omega) e (by omega), zpr_ne e, co a (by omega) (by omega) (by omega) (by omega)]
    all_goals rw [g100 _ (by decide), zpr_ne (by decide)]
  · refine ARl_k2 (k := 0) y0 hA ha ⟨by omega, by omega⟩ hp ⟨fun _ => hg, fun e => by omega, fun e => by omega⟩ (fun b b0 b1 => ?_) (fun b b0 b1 => ?_) (fun j hj => ?_) (fun b b0 b1 => ?_) (fun b b0 => ?_)
    · rw [hx, mo b (by omega) (by omega) (by omega), ck b b0 b1, ey]
    · rw [hx, mk b b0 b1]
      exact zmrec_c e100 (fun b b0 b1 => co b (by omega) (by omega) (by omega) (by omega)) 0 p g 0 0 b b0 b1
    · obtain ⟨-, -, -, r100, -⟩ := zmrec_rows m 0 p g 0 0
      rw [hx, m100, r100, e100]
    · rw [hx, mo b (by omega) (by omega) (by omega), co b (by omega) (by omega) (by omega) (by omega)]
    · rw [hx, mo b (by omega) (by omega) (by omega), co b (by omega) (by omega) (by omega) (by omega)]
theorem RA_h (h : RA R m) (ha : m 100 19 < 60) (hp : 0 ≤ p ∧ p < mN m) (hg : 0 ≤ g ∧ g ≤ 9) (hx : ∀ b, x b = mH (cH2 m p g) p g b) : RA R x := by
  obtain ⟨hT, hA⟩ := h
  obtain ⟨c3, c4, ck, co⟩ := cH_rows m p g
  obtain ⟨m101, mk, m100, mo⟩ := mH_rows (cH2 m p g) p g
  have ey := (TR_y hT).1
  have y0 : 0 ≤ m 100 6 := by rw [← ey]; exact (TR_yb hT).1
  have e100 : cH2 m p g 100 = m 100 := co 100 (by decide) (by decide) (by omega)
  have e101 : cH2 m p g 102 = m 102 := co 102 (by decide) (by decide) (by omega)
  have g100 : ∀ k, k ≠ 19 → x 100 k = m 100 k := fun k hk => by rw [hx, m100, zrw_ne hk, e100]
  obtain ⟨q1, q0, qr⟩ := zhput_rows m 3 p g
  simp only [Int.reduceAdd] at q1 qr
  refine ⟨?_, ?_⟩
  · refine TR_c (m := zhput m (2 + 1) p g) (w := zpr m 102 (zrw (m 102) p g)) (fun a a0 a1 => ?_) ⟨fun a a0 a1 => ?_, ?_, ?_, ?_, ?_, ?_, ?_⟩ (TR_height hT hp hg)
    · rw [hx, mo a (by omega) (by omega) (by omega)]
      show cH2 m p g a = zhput m 3 p g a
      by_cases e3 : a = 3
      · rw [e3, c3, q0]
      · by_cases e4 : a = 5
        · rw [e4, c4, q1]
        · rw [co a e3 e4 (by omega), qr a e3 e4]
    · rw [hx]
      by_cases e : a = 102
      · rw [e, m101, zpr_at, e101]
      · rw [mo a (by omega) e (by omega), zpr_ne e, co a (by omega) (by omega) (by omega)]
    all_goals rw [g100 _ (by decide), zpr_ne (by decide)]
  · refine ARl_k2 (k := 1) y0 hA ha ⟨by omega, by omega⟩ hp ⟨fun e => by omega, fun _ => hg, fun e => by omega⟩ (fun b b0 b1 => ?_) (fun b b0 b1 => ?_) (fun j hj => ?_) (fun b b0 b1 => ?_) (fun b b0 => ?_)
    · rw [hx, mo b (by omega) (by omega) (by omega), ck b b0 b1, ey]
    · rw [hx, mk b b0 b1]
      exact zmrec_c e100 (fun b b0 b1 => co b (by omega) (by omega) (by omega)) 1 p g 0 0 b b0 b1
    · obtain ⟨-, -, -, r100, -⟩ := zmrec_rows m 1 p g 0 0
      rw [hx, m100, r100, e100]
    · rw [hx, mo b (by omega) (by omega) (by omega), co b (by omega) (by omega) (by omega)]
    · rw [hx, mo b (by omega) (by omega) (by omega), co b (by omega) (by omega) (by omega)]
/-- the class's ground and height, done -/
theorem tz_gground (hT2 : TK R 2) (hGK : GK R) (hAK : AK R) (hT : TR m m 2) (ha : 0 ≤ m 58 0 ∧ m 58 0 < 60) (hp : 0 ≤ p ∧ p < mN m) (hg : 0 ≤ g ∧ g ≤ 2) (hu : m 103 p = 0) (hC : 0 ≤ m 3 3 ∧ m 3 3 < 2000000000) : ev 182 0 [(2, 1), (0, p), (0, g)] [] R m = some ((0, m 101 p), R, cG m p g) := by
  have H := tz_has (m := m) (TK_B3 hT2) p
  rw [TR_n3 hT, if_pos hp] at H
  have W := tz_within g 0 2 R m
  rw [if_pos hg] at W
  obtain ⟨g1, g2, g3⟩ := TR_g hT hp
  have CG : ev 115 0 [(2, 2), (0, p)] [] R m = some ((0, if m 6 p = 0 then 1 else 0), R, m) := tz_canGround hT2 (TR_V3 hT) (by show 0 ≤ p ∧ p < m 3 2; rw [TR_n3 hT]; exact hp)
  rw [g3, if_pos hu] at CG
  have AF := tz_afull (R := R) (m := m) hAK
  rw [if_neg (by omega)] at AF
  have KP := tz_keep (R := R) (m := m) hAK ha 0 (m 2 3) p g
  obtain ⟨y, hy⟩ : ∃ y, zkeep m 0 (m 2 3) p g = y := ⟨_, rfl⟩
  have yo : ∀ b, b < 58 → y b = m b := fun b hb => by rw [← hy]; exact (zkeep_rows m 0 (m 2 3) p g).2.2.2.2 b (by omega)
  have hVy : BV y 3 := (BT_fr (m := m) (m' := y) (o := 3) (fun a a0 a1 => yo a (by omega)) (TR_V3 hT) hT.1.1.2.2).1
  have PG : ev 20 0 [(2, 3), (0, p), (0, g), (9, 0)] [] R y = some ((0, y 4 p), R, zgput y 3 p g) := tz_putGround (TK_B3 hT2) hVy (by rw [yo 3 (by omega)]; exact hC) (by rw [yo 3 (by omega), TR_n3 hT]; exact hp) hg
  rw [yo 4 (by omega), g1] at PG
  rw [hy] at KP
  unfold cG
  rw [hy]
  simp only [s182_0, s182_1, s182_4, s182_7, s182_8, s182_11, s182_14, s182_15, s182_16, s182_17, s182_20, s182_23, s182_24, s182_25, s182_26, s182_29, s182_30, s182_33, s182_36, s182_38, s182_39, s182_40, s182_43, s182_46, s182_49, s182_51, s182_52, s182_53, s182_56, s182_57, s182_58, s182_61, s182_64, s182_65, s182_66, s182_69, s182_70, s182_73, s182_76, s182_77, s182_78, s182_81, zps_0, zps_1, zps_2, zps_3, zps_9, Option.bind_some, Option.bind_none, Int.reduceEq, Int.reduceNe, Int.reduceLT, Int.reduceLE, Int.reduceNeg, Int.reduceAdd, Int.reduceSub, Int.reduceMul, reduceIte, if_true, if_false, true_and, and_true, false_and, and_false, or_true, true_or, or_false, false_or, not_true_eq_false, not_false_eq_true, ite_not, z_b0, z_b1, z_b01, rGK0 hGK, rGK1 hGK, rGK2 hGK, rGK3 hGK, rGK4 hGK, rGK5 hGK, rGK6 hGK, rGK7 hGK, rGK8 hGK, rGK9 hGK, kGK0, kd2, kd3, kd9, kd11, r2_0 hT2, r2_1 hT2, r2_2 hT2, kAK0, H, W, CG, AF, KP, PG, if_true, if_false]
theorem tz_gheight (hT2 : TK R 2) (hGK : GK R) (hAK : AK R) (hT : TR m m 2) (ha : 0 ≤ m 58 0 ∧ m 58 0 < 60) (hp : 0 ≤ p ∧ p < mN m) (hg : 0 ≤ g ∧ g ≤ 9) (hC : 0 ≤ m 3 3 ∧ m 3 3 < 2000000000) : ev 183 0 [(2, 1), (0, p), (0, g)] [] R m = some ((0, m 102 p), R, cH2 m p g) := by
  have H := tz_has (m := m) (TK_B3 hT2) p
  rw [TR_n3 hT, if_pos hp] at H
  have W := tz_within g 0 9 R m
  rw [if_pos hg] at W
  obtain ⟨g1, g2, g3⟩ := TR_g hT hp
  have AF := tz_afull (R := R) (m := m) hAK
  rw [if_neg (by omega)] at AF
  have KP := tz_keep (R := R) (m := m) hAK ha 1 (m 2 3) p g
  obtain ⟨y, hy⟩ : ∃ y, zkeep m 1 (m 2 3) p g = y := ⟨_, rfl⟩
  have yo : ∀ b, b < 58 → y b = m b := fun b hb => by rw [← hy]; exact (zkeep_rows m 1 (m 2 3) p g).2.2.2.2 b (by omega)
  have hVy : BV y 3 := (BT_fr (m := m) (m' := y) (o := 3) (fun a a0 a1 => yo a (by omega)) (TR_V3 hT) hT.1.1.2.2).1
  have PG : ev 23 0 [(2, 3), (0, p), (0, g), (9, 0)] [] R y = some ((0, y 5 p), R, zhput y 3 p g) := tz_putHeight (TK_B3 hT2) hVy (by rw [yo 3 (by omega)]; exact hC) (by rw [yo 3 (by omega), TR_n3 hT]; exact hp) hg
  rw [yo 5 (by omega), g2] at PG
  rw [hy] at KP
  unfold cH2
  rw [hy]
  simp only [s183_0, s183_1, s183_4, s183_7, s183_8, s183_11, s183_14, s183_15, s183_16, s183_18, s183_21, s183_24, s183_25, s183_26, s183_27, s183_30, s183_33, s183_36, s183_38, s183_39, s183_40, s183_43, s183_44, s183_45, s183_48, s183_51, s183_52, s183_53, s183_56, s183_57, s183_60, s183_63, s183_64, s183_65, s183_68, zps_0, zps_1, zps_2, zps_3, zps_9, Option.bind_some, Option.bind_none, Int.reduceEq, Int.reduceNe, Int.reduceLT, Int.reduceLE, Int.reduceNeg, Int.reduceAdd, Int.reduceSub, Int.reduceMul, reduceIte, if_true, if_false, true_and, and_true, false_and, and_false, or_true, true_or, or_false, false_or, not_true_eq_false, not_false_eq_true, ite_not, z_b0, z_b1, z_b01, rGK0 hGK, rGK1 hGK, rGK2 hGK, rGK3 hGK, rGK4 hGK, rGK5 hGK, rGK6 hGK, rGK7 hGK, rGK8 hGK, rGK9 hGK, kGK0, kd2, kd3, kd9, kd11, r2_0 hT2, r2_1 hT2, r2_2 hT2, kAK0, H, W, AF, KP, PG, if_true, if_false]
theorem tz_mground (hM : MK R) (hV : MV m) (ha : 0 ≤ m 100 19 ∧ m 100 19 < 60) (hp : 0 ≤ p ∧ p < mN m) (hg : 0 ≤ g ∧ g ≤ 2) (hu : m 103 p = 0) : ev 231 0 [(2, 100), (0, p), (0, g), (9, 0)] [] R m = some ((0, m 101 p), R, mG m p g) := by
  have IP := tz_isPlot (R := R) (m := m) hM hV p
  rw [if_pos hp] at IP
  have n64 := MV_n hV
  have c : 0 ≤ p ∧ p < 64 := by omega
  have f : ¬ m 100 19 = 60 := by omega
  have RC := tz_mrec (R := R) (w := m) hM ha 0 p g 0 0
  have e101 : zmrec m 0 p g 0 0 101 = m 101 := (zmrec_rows m 0 p g 0 0).2.2.2.2 101 (by decide) (by decide) (by decide) (by decide)
  unfold mG
  simp only [s231_0, s231_1, s231_2, s231_5, s231_8, s231_9, s231_10, s231_11, s231_14, s231_17, s231_20, s231_21, s231_22, s231_23, s231_26, s231_27, s231_28, s231_31, s231_33, s231_34, s231_35, s231_38, s231_40, s231_43, s231_45, s231_46, s231_47, s231_48, s231_49, s231_50, s231_51, s231_52, s231_55, s231_56, s231_59, s231_60, s231_61, s231_62, s231_63, s231_66, s231_67, s231_68, s231_69, s231_70, zps_0, zps_1, zps_2, zps_3, zps_9, Option.bind_some, Option.bind_none, Int.reduceEq, Int.reduceNe, Int.reduceLT, Int.reduceLE, Int.reduceNeg, Int.reduceAdd, Int.reduceSub, Int.reduceMul, reduceIte, if_true, if_false, true_and, and_true, false_and, and_false, or_true, true_or, or_false, false_or, not_true_eq_false, not_false_eq_true, ite_not, z_b0, z_b1, z_b01, rMK0 hM, rMK1 hM, rMK2 hM, rMK3 hM, rMK4 hM, rMK5 hM, rMK6 hM, rMK7 hM, rMK8 hM, rMK9 hM, rMK10 hM, rMK11 hM, rMK12 hM, rMK13 hM, rMK14 hM, rMK15 hM, rMK16 hM, rMK17 hM, rMK18 hM, rMK19 hM, rMK20 hM, rMK21 hM, rMK22 hM, rMK23 hM, rMK24 hM, rMK25 hM, rMK26 hM, rMK27 hM, rMK28 hM, rMK29 hM, rMK30 hM, rMK31 hM, rMK32 hM, rMK33 hM, rMK34 hM, rMK35 hM, rMK36 hM, rMK37 hM, rMK38 hM, rMK39 hM, rMK40 hM, rMK41 hM, rMK42 hM, rMK43 hM, rMK44 hM, rMK45 hM, rMK46 hM, rMK47 hM, rMK48 hM, rMK49 hM, rMK50 hM, rMK51 hM, kMK0, kMK1, kMK2, kMK3, kMK4, kMK5, kMK6, kMK7, kMK8, kMK9, kMK10, kMK11, kMK12, kMK13, kMK14, kMK15, kMK16, kMK17, kMK18, kMK19, kMK20, kMK21, kMK22, kMK23, kMK24, kMK25, kMK26, kMK27, kMK28, kMK29, kMK30, kMK31, kMK32, kMK33, kMK34, kMK35, kMK36, kMK37, kMK38, kMK39, kMK40, kMK41, kMK42, kMK43, kMK44, kMK45, kMK46, kMK47, kMK48, kMK49, kMK50, kMK51, kMK52, kMK53, kMK54, kMK55, kMK56, kMK57, kMK58, kMK59, kMK60, kMK61, kMK62, kMK63, kMK64, kMK65, kMK66, kMK67, kMK68, kMK69, kMK70, kMK71, kMK72, kMK73, kMK74, kMK75, kMK76, kMK77, kMK78, kMK79, kMK80, kMK81, kMK82, kMK83, kMK84, kMK85, kMK86, kMK87, kMK88, kMK89, kMK90, kMK91, kMK92, kMK93, kMK94, kMK95, kMK96, kMK97, kMK98, kMK99, kMK100, kMK101, kMK102, kMK103, kMK104, IP, tz_in, hg, c, hu, f, RC, e101, and_self, if_true, if_false, zup_zpr]
theorem tz_mheight (hM : MK R) (hV : MV m) (ha : 0 ≤ m 100 19 ∧ m 100 19 < 60) (hp : 0 ≤ p ∧ p < mN m) (hg : 0 ≤ g ∧ g ≤ 9) : ev 235 0 [(2, 100), (0, p), (0, g), (9, 0)] [] R m = some ((0, m 102 p), R, mH m p g) := by
  have IP := tz_isPlot (R := R) (m := m) hM hV p
  rw [if_pos hp] at IP
  have n64 := MV_n hV
  have c : 0 ≤ p ∧ p < 64 := by omega
  have f : ¬ m 100 19 = 60 := by omega
  have RC := tz_mrec (R := R) (w := m) hM ha 1 p g 0 0
  have e101 : zmrec m 1 p g 0 0 102 = m 102 := (zmrec_rows m 1 p g 0 0).2.2.2.2 102 (by decide) (by decide) (by decide) (by decide)
  unfold mH
  simp only [s235_0, s235_1, s235_2, s235_5, s235_8, s235_9, s235_10, s235_11, s235_14, s235_17, s235_20, s235_21, s235_22, s235_23, s235_26, s235_28, s235_31, s235_33, s235_34, s235_35, s235_36, s235_37, s235_38, s235_39, s235_40, s235_43, s235_44, s235_47, s235_48, s235_49, s235_50, s235_51, s235_54, s235_55, s235_56, s235_57, s235_58, zps_0, zps_1, zps_2, zps_3, zps_9, Option.bind_some, Option.bind_none, Int.reduceEq, Int.reduceNe, Int.reduceLT, Int.reduceLE, Int.reduceNeg, Int.reduceAdd, Int.reduceSub, Int.reduceMul, reduceIte, if_true, if_false, true_and, and_true, false_and, and_false, or_true, true_or, or_false, false_or, not_true_eq_false, not_false_eq_true, ite_not, z_b0, z_b1, z_b01, rMK0 hM, rMK1 hM, rMK2 hM, rMK3 hM, rMK4 hM, rMK5 hM, rMK6 hM, rMK7 hM, rMK8 hM, rMK9 hM, rMK10 hM, rMK11 hM, rMK12 hM, rMK13 hM, rMK14 hM, rMK15 hM, rMK16 hM, rMK17 hM, rMK18 hM, rMK19 hM, rMK20 hM, rMK21 hM, rMK22 hM, rMK23 hM, rMK24 hM, rMK25 hM, rMK26 hM, rMK27 hM, rMK28 hM, rMK29 hM, rMK30 hM, rMK31 hM, rMK32 hM, rMK33 hM, rMK34 hM, rMK35 hM, rMK36 hM, rMK37 hM, rMK38 hM, rMK39 hM, rMK40 hM, rMK41 hM, rMK42 hM, rMK43 hM, rMK44 hM, rMK45 hM, rMK46 hM, rMK47 hM, rMK48 hM, rMK49 hM, rMK50 hM, rMK51 hM, kMK0, kMK1, kMK2, kMK3, kMK4, kMK5, kMK6, kMK7, kMK8, kMK9, kMK10, kMK11, kMK12, kMK13, kMK14, kMK15, kMK16, kMK17, kMK18, kMK19, kMK20, kMK21, kMK22, kMK23, kMK24, kMK25, kMK26, kMK27, kMK28, kMK29, kMK30, kMK31, kMK32, kMK33, kMK34, kMK35, kMK36, kMK37, kMK38, kMK39, kMK40, kMK41, kMK42, kMK43, kMK44, kMK45, kMK46, kMK47, kMK48, kMK49, kMK50, kMK51, kMK52, kMK53, kMK54, kMK55, kMK56, kMK57, kMK58, kMK59, kMK60, kMK61, kMK62, kMK63, kMK64, kMK65, kMK66, kMK67, kMK68, kMK69, kMK70, kMK71, kMK72, kMK73, kMK74, kMK75, kMK76, kMK77, kMK78, kMK79, kMK80, kMK81, kMK82, kMK83, kMK84, kMK85, kMK86, kMK87, kMK88, kMK89, kMK90, kMK91, kMK92, kMK93, kMK94, kMK95, kMK96, kMK97, kMK98, kMK99, kMK100, kMK101, kMK102, kMK103, kMK104, IP, tz_in, hg, c, f, RC, e101, and_self, if_true, if_false, zup_zpr]
end GROUND
