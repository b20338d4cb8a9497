/-! feed -/
section FEEDX
variable {R m x y w z : zM} {p q t u S0 K Y to a b L : Int} {n : Nat}
def tByte (v s : Int) : Int := zw (z6s (fun x y => x >>> (y.toInt64 &&& 63)) v s) % 256
theorem zpr_sw (w : zM) (g F h : Int → Int) : zpr (zpr (zpr w 120 g) 100 F) 120 h = zpr (zpr w 120 h) 100 F := by
  funext b
  by_cases b1 : b = 120
  · rw [b1, zpr_at, zpr_ne (by decide), zpr_at]
  · rw [zpr_ne b1]
    by_cases b2 : b = 100
    · rw [b2, zpr_at, zpr_at]
    · rw [zpr_ne b2, zpr_ne b2, zpr_ne b1, zpr_ne b1]
theorem tz_append (hXK : XK R) (hL : m 63 0 = L) (h0 : 0 ≤ L ∧ L + 8 ≤ 320) (v : Int) : ∃ f : Int → Int, ev 33 0 [(2, 63), (1, v), (8, 0), (9, 0)] [] R m = some ((0, 1), R, zpr (zpr m 64 f) 63 (zrw (m 63) 0 (L + 8))) ∧ (∀ i, 0 ≤ i → i < 8 → f (L + i) = tByte v (56 - 8 * i)) ∧ ∀ j, ¬ (L ≤ j ∧ j < L + 8) → f j = m 64 j := by
  have zl : zw (L + 8) = L + 8 := zw_i (by omega) (by omega)
  have c1 : ¬ L < 0 := by omega
  have c2 : L + 8 ≤ 320 := h0.2
  have L0 : ev 33 0 [(2, 63), (1, v), (8, 0), (9, 0)] [] R m = ev 33 24 [(2, 63), (1, v), (8, 0), (0, 0)] [] R (zpr m 64 (m 64)) := by
    rw [zpr_self]
    simp only [s33_0, s33_1, s33_4, s33_7, s33_8, s33_11, s33_13, s33_14, s33_17, s33_20, s33_21, s33_22, s33_23, s33_25, s33_27, s33_30, s33_31, s33_34, s33_35, s33_38, s33_39, s33_40, s33_41, s33_43, s33_45, s33_46, s33_47, s33_48, s33_49, s33_50, s33_53, s33_54, s33_55, s33_58, s33_61, s33_62, s33_63, s33_66, s33_68, s33_69, s33_72, s33_73, zps_0, zps_1, zps_2, zps_3, zps_9, Option.bind_some, Option.bind_none, Int.reduceEq, Int.reduceNe, Int.reduceLT, Int.reduceLE, Int.reduceNeg, Int.reduceAdd, Int.reduceSub, Int.reduceMul, reduceIte, if_true, if_false, true_and, and_true, false_and, and_false, or_true, true_or, or_false, false_or, not_true_eq_false, not_false_eq_true, ite_not, z_b0, z_b1, z_b01, rXK0 hXK, rXK1 hXK, rXK2 hXK, rXK3 hXK, kXK0, kXK1, kXK2, kXK3, kXK4, kXK5, kXK6, kXK7, kXK8, hL, c1, zl, c2, if_true, if_false]
  rw [L0]
  refine zloop (fun r => ∃ f : Int → Int, r = some ((0, 1), R, zpr (zpr m 64 f) 63 (zrw (m 63) 0 (L + 8))) ∧ (∀ i, 0 ≤ i → i < 8 → f (L + i) = tByte v (56 - 8 * i)) ∧ ∀ j, ¬ (L ≤ j ∧ j < L + 8) → f j = m 64 j) (fun i (g : Int → Int) => ev 33 24 [(2, 63), (1, v), (8, 0), (0, i)] [] R (zpr m 64 g)) 8 (fun i g => 0 ≤ i ∧ (∀ k, 0 ≤ k → k < i → g (L + k) = tByte v (56 - 8 * k)) ∧ ∀ j, ¬ (L ≤ j ∧ j < L + 8) → g j = m 64 j) ?_ ?_ 0 (m 64) (by omega) ⟨by omega, fun k k0 k1 => by omega, fun j hj => rfl⟩
  · rintro i g hi ⟨i0, hI, hJ⟩ ih
    have d1 : ¬ 8 ≤ i := by omega
    have z1 : zw (L + i) = L + i := zw_i (by omega) (by omega)
    have z2 : zw (8 * i) = 8 * i := zw_i (by omega) (by omega)
    have z3 : zw (56 - 8 * i) = 56 - 8 * i := zw_i (by omega) (by omega)
    have z4 : zw (i + 1) = i + 1 := zw_i (by omega) (by omega)
    have c3 : 0 ≤ L + i ∧ L + i < 320 := by omega
    have e63 : ∀ g : Int → Int, zpr m 64 g 63 = m 63 := fun g => zpr_ne (by decide)
    have B := z_byte v (s := 56 - 8 * i) (by omega)
    rw [s33_24]
    simp only [s33_0, s33_1, s33_4, s33_7, s33_8, s33_11, s33_13, s33_14, s33_17, s33_20, s33_21, s33_22, s33_23, s33_25, s33_27, s33_30, s33_31, s33_34, s33_35, s33_38, s33_39, s33_40, s33_41, s33_43, s33_45, s33_46, s33_47, s33_48, s33_49, s33_50, s33_53, s33_54, s33_55, s33_58, s33_62, s33_63, s33_66, s33_68, s33_69, s33_72, s33_73, zps_0, zps_1, zps_2, zps_3, zps_9, Option.bind_some, Option.bind_none, Int.reduceEq, Int.reduceNe, Int.reduceLT, Int.reduceLE, Int.reduceNeg, Int.reduceAdd, Int.reduceSub, Int.reduceMul, reduceIte, if_true, if_false, true_and, and_true, false_and, and_false, or_true, true_or, or_false, false_or, not_true_eq_false, not_false_eq_true, ite_not, z_b0, z_b1, z_b01, rXK0 hXK, rXK1 hXK, rXK2 hXK, rXK3 hXK, kXK0, kXK1, kXK2, kXK3, kXK4, kXK5, kXK6, kXK7, kXK8, e63, hL, hi, d1, z1, z2, z3, z4, c3, z_and255, B, and_self, if_true, if_false, zup_zpr, zpr_at, zpr_zpr]
    refine ih _ ⟨by omega, fun k k0 k1 => ?_, fun j hj => ?_⟩
    · rw [zrw_if]
      by_cases e : k = i
      · rw [if_pos (by omega), e]; rfl
      · rw [if_neg (by omega)]; exact hI k k0 (by omega)
    · rw [zrw_ne (by omega)]; exact hJ j hj
  · rintro g ⟨-, hI, hJ⟩
    refine ⟨g, ?_, hI, hJ⟩
    have e63 : ∀ g : Int → Int, zpr m 64 g 63 = m 63 := fun g => zpr_ne (by decide)
    rw [s33_24]
    simp only [s33_0, s33_1, s33_4, s33_7, s33_8, s33_11, s33_13, s33_14, s33_17, s33_20, s33_21, s33_22, s33_23, s33_25, s33_27, s33_30, s33_31, s33_34, s33_35, s33_38, s33_39, s33_40, s33_41, s33_43, s33_45, s33_46, s33_47, s33_48, s33_49, s33_50, s33_53, s33_54, s33_55, s33_58, s33_61, s33_62, s33_63, s33_66, s33_68, s33_69, s33_72, s33_73, zps_0, zps_1, zps_2, zps_3, zps_9, Option.bind_some, Option.bind_none, Int.reduceEq, Int.reduceNe, Int.reduceLT, Int.reduceLE, Int.reduceNeg, Int.reduceAdd, Int.reduceSub, Int.reduceMul, reduceIte, if_true, if_false, true_and, and_true, false_and, and_false, or_true, true_or, or_false, false_or, not_true_eq_false, not_false_eq_true, ite_not, z_b0, z_b1, z_b01, rXK0 hXK, rXK1 hXK, rXK2 hXK, rXK3 hXK, kXK0, kXK1, kXK2, kXK3, kXK4, kXK5, kXK6, kXK7, kXK8, e63, hL, zl, Int.le_refl, if_true, zup_zpr]
theorem tz_mfeed (hM : MK R) (hL : w 100 27 = L) (h0 : 0 ≤ L ∧ L + 8 ≤ 320) (v : Int) : ∃ f : Int → Int, ev 239 0 [(2, 100), (1, v), (8, 0), (9, 0)] [] R w = some ((0, L + 8), R, zpr (zpr w 120 f) 100 (zrw (w 100) 27 (L + 8))) ∧ (∀ i, 0 ≤ i → i < 8 → f (L + i) = tByte v (56 - 8 * i)) ∧ ∀ j, ¬ (L ≤ j ∧ j < L + 8) → f j = w 120 j := by
  have zl : zw (L + 8) = L + 8 := zw_i (by omega) (by omega)
  have c2 : L + 8 ≤ 320 := h0.2
  have L0 : ev 239 0 [(2, 100), (1, v), (8, 0), (9, 0)] [] R w = ev 239 19 [(2, 100), (1, v), (8, 0), (0, 56 - 8 * 0)] [] R (zpr (zpr w 120 (w 120)) 100 (zrw (w 100) 27 (L + 0))) := by
    have e : zpr (zpr w 120 (w 120)) 100 (zrw (w 100) 27 (L + 0)) = w := by
      funext b
      by_cases b1 : b = 100
      · rw [b1, zpr_at, Int.add_zero]
        funext j
        rw [zrw_if]
        by_cases j1 : j = 27
        · rw [if_pos j1, j1, hL]
        · rw [if_neg j1]
      · rw [zpr_ne b1, zpr_self]
    rw [e, show (56 : Int) - 8 * 0 = 56 from rfl]
    simp only [s239_0, s239_1, s239_4, s239_6, s239_7, s239_10, s239_13, s239_15, s239_16, s239_18, s239_20, s239_23, s239_24, s239_27, s239_28, s239_31, s239_32, s239_33, s239_34, s239_35, s239_38, s239_39, s239_40, s239_41, s239_42, s239_45, s239_46, s239_47, s239_50, s239_53, s239_56, s239_57, s239_60, zps_0, zps_1, zps_2, zps_3, zps_9, Option.bind_some, Option.bind_none, Int.reduceEq, Int.reduceNe, Int.reduceLT, Int.reduceLE, Int.reduceNeg, Int.reduceAdd, Int.reduceSub, Int.reduceMul, reduceIte, if_true, if_false, true_and, and_true, false_and, and_false, or_true, true_or, or_false, false_or, not_true_eq_false, not_false_eq_true, ite_not, z_b0, z_b1, z_b01, rMK0 hM, rMK1 hM, rMK2 hM, rMK3 hM, rMK4 hM, rMK5 hM, rMK6 hM, rMK7 hM, rMK8 hM, rMK9 hM, rMK10 hM, rMK11 hM, rMK12 hM, rMK13 hM, rMK14 hM, rMK15 hM, rMK16 hM, rMK17 hM, rMK18 hM, rMK19 hM, rMK20 hM, rMK21 hM, rMK22 hM, rMK23 hM, rMK24 hM, rMK25 hM, rMK26 hM, rMK27 hM, rMK28 hM, rMK29 hM, rMK30 hM, rMK31 hM, rMK32 hM, rMK33 hM, rMK34 hM, rMK35 hM, rMK36 hM, rMK37 hM, rMK38 hM, rMK39 hM, rMK40 hM, rMK41 hM, rMK42 hM, rMK43 hM, rMK44 hM, rMK45 hM, rMK46 hM, rMK47 hM, rMK48 hM, rMK49 hM, rMK50 hM, rMK51 hM, kMK0, kMK1, kMK2, kMK3, kMK4, kMK5, kMK6, kMK7, kMK8, kMK9, kMK10, kMK11, kMK12, kMK13, kMK14, kMK15, kMK16, kMK17, kMK18, kMK19, kMK20, kMK21, kMK22, kMK23, kMK24, kMK25, kMK26, kMK27, kMK28, kMK29, kMK30, kMK31, kMK32, kMK33, kMK34, kMK35, kMK36, kMK37, kMK38, kMK39, kMK40, kMK41, kMK42, kMK43, kMK44, kMK45, kMK46, kMK47, kMK48, kMK49, kMK50, kMK51, kMK52, kMK53, kMK54, kMK55, kMK56, kMK57, kMK58, kMK59, kMK60, kMK61, kMK62, kMK63, kMK64, kMK65, kMK66, kMK67, kMK68, kMK69, kMK70, kMK71, kMK72, kMK73, kMK74, kMK75, kMK76, kMK77, kMK78, kMK79, kMK80, kMK81, kMK82, kMK83, kMK84, kMK85, kMK86, kMK87, kMK88, kMK89, kMK90, kMK91, kMK92, kMK93, kMK94, kMK95, kMK96, kMK97, kMK98, kMK99, kMK100, kMK101, kMK102, kMK103, kMK104, hL, zl, c2, if_true, if_false]
  rw [L0]
  refine zloop (fun r => ∃ f : Int → Int, r = some ((0, L + 8), R, zpr (zpr w 120 f) 100 (zrw (w 100) 27 (L + 8))) ∧ (∀ i, 0 ≤ i → i < 8 → f (L + i) = tByte v (56 - 8 * i)) ∧ ∀ j, ¬ (L ≤ j ∧ j < L + 8) → f j = w 120 j) (fun i (g : Int → Int) => ev 239 19 [(2, 100), (1, v), (8, 0), (0, 56 - 8 * i)] [] R (zpr (zpr w 120 g) 100 (zrw (w 100) 27 (L + i)))) 8 (fun i g => 0 ≤ i ∧ (∀ k, 0 ≤ k → k < i → g (L + k) = tByte v (56 - 8 * k)) ∧ ∀ j, ¬ (L ≤ j ∧ j < L + 8) → g j = w 120 j) ?_ ?_ 0 (w 120) (by omega) ⟨by omega, fun k k0 k1 => by omega, fun j hj => rfl⟩
  · rintro i g hi ⟨i0, hI, hJ⟩ ih
    have d1 : ¬ 56 - 8 * i < 0 := by omega
    have z1 : zw (L + i + 1) = L + (i + 1) := by rw [zw_i (by omega) (by omega)]; omega
    have z3 : zw (56 - 8 * i + -8) = 56 - 8 * (i + 1) := by rw [zw_i (by omega) (by omega)]; omega
    have c3 : 0 ≤ L + i ∧ L + i < 320 := by omega
    have r100 : ∀ (g F : Int → Int), zpr (zpr w 120 g) 100 F 100 = F := fun g F => zpr_at _ _ _
    have r120 : ∀ (g F : Int → Int), zpr (zpr w 120 g) 100 F 120 = g := fun g F => by rw [zpr_ne (by decide), zpr_at]
    have rk : ∀ (F : Int → Int) (v : Int), zrw F 27 v 27 = v := fun F v => zrw_at _ _ _
    have rr : ∀ (F : Int → Int) (v u : Int), zrw (zrw F 27 v) 27 u = zrw F 27 u := fun F v u => by funext j; rw [zrw_if, zrw_if, zrw_if]; split <;> rfl
    rw [s239_19]
    simp only [s239_0, s239_1, s239_4, s239_6, s239_7, s239_10, s239_13, s239_15, s239_16, s239_18, s239_20, s239_23, s239_24, s239_27, s239_28, s239_31, s239_32, s239_33, s239_34, s239_35, s239_38, s239_39, s239_40, s239_41, s239_42, s239_45, s239_46, s239_47, s239_50, s239_53, s239_57, s239_60, zps_0, zps_1, zps_2, zps_3, zps_9, Option.bind_some, Option.bind_none, Int.reduceEq, Int.reduceNe, Int.reduceLT, Int.reduceLE, Int.reduceNeg, Int.reduceAdd, Int.reduceSub, Int.reduceMul, reduceIte, if_true, if_false, true_and, and_true, false_and, and_false, or_true, true_or, or_false, false_or, not_true_eq_false, not_false_eq_true, ite_not, z_b0, z_b1, z_b01, rMK0 hM, rMK1 hM, rMK2 hM, rMK3 hM, rMK4 hM, rMK5 hM, rMK6 hM, rMK7 hM, rMK8 hM, rMK9 hM, rMK10 hM, rMK11 hM, rMK12 hM, rMK13 hM, rMK14 hM, rMK15 hM, rMK16 hM, rMK17 hM, rMK18 hM, rMK19 hM, rMK20 hM, rMK21 hM, rMK22 hM, rMK23 hM, rMK24 hM, rMK25 hM, rMK26 hM, rMK27 hM, rMK28 hM, rMK29 hM, rMK30 hM, rMK31 hM, rMK32 hM, rMK33 hM, rMK34 hM, rMK35 hM, rMK36 hM, rMK37 hM, rMK38 hM, rMK39 hM, rMK40 hM, rMK41 hM, rMK42 hM, rMK43 hM, rMK44 hM, rMK45 hM, rMK46 hM, rMK47 hM, rMK48 hM, rMK49 hM, rMK50 hM, rMK51 hM, kMK0, kMK1, kMK2, kMK3, kMK4, kMK5, kMK6, kMK7, kMK8, kMK9, kMK10, kMK11, kMK12, kMK13, kMK14, kMK15, kMK16, kMK17, kMK18, kMK19, kMK20, kMK21, kMK22, kMK23, kMK24, kMK25, kMK26, kMK27, kMK28, kMK29, kMK30, kMK31, kMK32, kMK33, kMK34, kMK35, kMK36, kMK37, kMK38, kMK39, kMK40, kMK41, kMK42, kMK43, kMK44, kMK45, kMK46, kMK47, kMK48, kMK49, kMK50, kMK51, kMK52, kMK53, kMK54, kMK55, kMK56, kMK57, kMK58, kMK59, kMK60, kMK61, kMK62, kMK63, kMK64, kMK65, kMK66, kMK67, kMK68, kMK69, kMK70, kMK71, kMK72, kMK73, kMK74, kMK75, kMK76, kMK77, kMK78, kMK79, kMK80, kMK81, kMK82, kMK83, kMK84, kMK85, kMK86, kMK87, kMK88, kMK89, kMK90, kMK91, kMK92, kMK93, kMK94, kMK95, kMK96, kMK97, kMK98, kMK99, kMK100, kMK101, kMK102, kMK103, kMK104, r100, r120, rk, d1, z1, z3, c3, z_and255, and_self, if_true, if_false, zup_zpr, zpr_sw, zpr_zpr, rr]
    refine ih _ ⟨by omega, fun k k0 k1 => ?_, fun j hj => ?_⟩
    · rw [zrw_if]
      by_cases e : k = i
      · rw [if_pos (by omega), e]; rfl
      · rw [if_neg (by omega)]; exact hI k k0 (by omega)
    · rw [zrw_ne (by omega)]; exact hJ j hj
  · rintro g ⟨-, hI, hJ⟩
    refine ⟨g, ?_, hI, hJ⟩
    have d1 : (56 : Int) - 8 * 8 < 0 := by omega
    have r100 : ∀ (g F : Int → Int), zpr (zpr w 120 g) 100 F 100 = F := fun g F => zpr_at _ _ _
    have rk : ∀ (F : Int → Int) (v : Int), zrw F 27 v 27 = v := fun F v => zrw_at _ _ _
    rw [s239_19]
    simp only [s239_0, s239_1, s239_4, s239_6, s239_7, s239_10, s239_13, s239_15, s239_16, s239_18, s239_20, s239_23, s239_24, s239_27, s239_28, s239_31, s239_32, s239_33, s239_34, s239_35, s239_38, s239_39, s239_40, s239_41, s239_42, s239_45, s239_46, s239_47, s239_50, s239_53, s239_56, s239_57, s239_60, zps_0, zps_1, zps_2, zps_3, zps_9, Option.bind_some, Option.bind_none, Int.reduceEq, Int.reduceNe, Int.reduceLT, Int.reduceLE, Int.reduceNeg, Int.reduceAdd, Int.reduceSub, Int.reduceMul, reduceIte, if_true, if_false, true_and, and_true, false_and, and_false, or_true, true_or, or_false, false_or, not_true_eq_false, not_false_eq_true, ite_not, z_b0, z_b1, z_b01, rMK0 hM, rMK1 hM, rMK2 hM, rMK3 hM, rMK4 hM, rMK5 hM, rMK6 hM, rMK7 hM, rMK8 hM, rMK9 hM, rMK10 hM, rMK11 hM, rMK12 hM, rMK13 hM, rMK14 hM, rMK15 hM, rMK16 hM, rMK17 hM, rMK18 hM, rMK19 hM, rMK20 hM, rMK21 hM, rMK22 hM, rMK23 hM, rMK24 hM, rMK25 hM, rMK26 hM, rMK27 hM, rMK28 hM, rMK29 hM, rMK30 hM, rMK31 hM, rMK32 hM, rMK33 hM, rMK34 hM, rMK35 hM, rMK36 hM, rMK37 hM, rMK38 hM, rMK39 hM, rMK40 hM, rMK41 hM, rMK42 hM, rMK43 hM, rMK44 hM, rMK45 hM, rMK46 hM, rMK47 hM, rMK48 hM, rMK49 hM, rMK50 hM, rMK51 hM, kMK0, kMK1, kMK2, kMK3, kMK4, kMK5, kMK6, kMK7, kMK8, kMK9, kMK10, kMK11, kMK12, kMK13, kMK14, kMK15, kMK16, kMK17, kMK18, kMK19, kMK20, kMK21, kMK22, kMK23, kMK24, kMK25, kMK26, kMK27, kMK28, kMK29, kMK30, kMK31, kMK32, kMK33, kMK34, kMK35, kMK36, kMK37, kMK38, kMK39, kMK40, kMK41, kMK42, kMK43, kMK44, kMK45, kMK46, kMK47, kMK48, kMK49, kMK50, kMK51, kMK52, kMK53, kMK54, kMK55, kMK56, kMK57, kMK58, kMK59, kMK60, kMK61, kMK62, kMK63, kMK64, kMK65, kMK66, kMK67, kMK68, kMK69, kMK70, kMK71, kMK72, kMK73, kMK74, kMK75, kMK76, kMK77, kMK78, kMK79, kMK80, kMK81, kMK82, kMK83, kMK84, kMK85, kMK86, kMK87, kMK88, kMK89, kMK90, kMK91, kMK92, kMK93, kMK94, kMK95, kMK96, kMK97, kMK98, kMK99, kMK100, kMK101, kMK102, kMK103, kMK104, r100, rk, d1, if_true]
    (try rfl)
theorem top_feed (v : Int) : Top 186 239 [(1, v), (8, 0)] [(1, v), (8, 0), (9, 0)] := by
  intro R m S0 K h hK0 hK
  have h' := h
  obtain ⟨hRT, hA, hT, hKA, hPA, hTP, hWT, hWL, ⟨ntr, hTR⟩, ⟨npl, hPL⟩, hNT, hSH⟩ := h'
  obtain ⟨hT2, hT30, hL68, hGK, hAK, hXK, hWK, hPK, hQK, hNK, hCK, hM⟩ := hRT.1
  obtain ⟨t1, t2, t3, t4, t5⟩ := hTP
  obtain ⟨L, hL⟩ : ∃ L, m 100 27 = L := ⟨_, rfl⟩
  rw [hL] at t1 t2 t3
  by_cases c : L + 8 ≤ 320
  · obtain ⟨f, G1, f1, f2⟩ := tz_append (R := R) (m := m) hXK t1 ⟨t2.1, c⟩ v
    obtain ⟨x, hx⟩ : ∃ x, zpr (zpr m 64 f) 63 (zrw (m 63) 0 (L + 8)) = x := ⟨_, rfl⟩
    rw [hx] at G1
    have x63 : x 63 = zrw (m 63) 0 (L + 8) := by rw [← hx, zpr_at]
    have x64 : x 64 = f := by rw [← hx, zpr_ne (by decide), zpr_at]
    have xo : ∀ b, b ≠ 63 → b ≠ 64 → x b = m b := fun b b1 b2 => by rw [← hx, zpr_ne b1, zpr_ne b2]
    have x100 := xo 100 (by decide) (by decide)
    obtain ⟨g, G2, g1, g2⟩ := tz_mfeed (R := R) (w := x) hM (by rw [x100]; exact hL) ⟨t2.1, c⟩ v
    obtain ⟨y, hy⟩ : ∃ y, zpr (zpr x 120 g) 100 (zrw (x 100) 27 (L + 8)) = y := ⟨_, rfl⟩
    rw [hy] at G2
    have y100 : y 100 = zrw (m 100) 27 (L + 8) := by rw [← hy, zpr_at, x100]
    have y120 : y 120 = g := by rw [← hy, zpr_ne (by decide), zpr_at]
    have yo : ∀ b, b ≠ 100 → b ≠ 120 → y b = x b := fun b b1 b2 => by rw [← hy, zpr_ne b1, zpr_ne b2]
    have x630 : x 63 0 = L + 8 := by rw [x63, zrw_at]
    refine ⟨L + 8, R, x, y, ?_, G2, Rel_tp h ⟨?_, ?_, ?_, ?_, ?_⟩ (fun b hb => by rw [yo b (by omega) (by omega), xo b (by omega) (by omega)]) (fun k hk => by rw [y100, zrw_ne (by omega)]), fun _ _ _ => rfl⟩
    · simp only [s186_0, s186_1, s186_4, s186_5, s186_8, s186_11, s186_12, s186_15, s186_18, s186_21, s186_23, zps_0, zps_1, zps_2, zps_3, zps_9, Option.bind_some, Option.bind_none, Int.reduceEq, Int.reduceNe, Int.reduceLT, Int.reduceLE, Int.reduceNeg, Int.reduceAdd, Int.reduceSub, Int.reduceMul, reduceIte, if_true, if_false, true_and, and_true, false_and, and_false, or_true, true_or, or_false, false_or, not_true_eq_false, not_false_eq_true, ite_not, z_b0, z_b1, z_b01, rGK0 hGK, rGK1 hGK, rGK2 hGK, rGK3 hGK, rGK4 hGK, rGK5 hGK, rGK6 hGK, rGK7 hGK, rGK8 hGK, rGK9 hGK, kGK0, rXK0 hXK, rXK1 hXK, rXK2 hXK, rXK3 hXK, kXK0, kXK1, kXK2, kXK3, kXK4, kXK5, kXK6, kXK7, kXK8, G1, x630, if_true, if_false]
    · rw [yo 63 (by decide) (by decide), x630, y100, zrw_at]
    · rw [y100, zrw_at]; omega
    · rw [y100, zrw_at, yo 64 (by decide) (by decide), x64, y120]
      intro i i0 i1
      by_cases d : i < L
      · rw [f2 i (by omega), g2 i (by omega), xo 120 (by decide) (by decide)]
        exact t3 i i0 d
      · have e : i = L + (i - L) := by omega
        have e1 := f1 (i - L) (by omega) (by omega)
        have e2 := g1 (i - L) (by omega) (by omega)
        rw [← e] at e1 e2
        rw [e1, e2]
        refine ⟨rfl, ?_⟩
        unfold tByte
        omega
    · rw [yo 63 (by decide) (by decide), x63, zrw_ne (by decide), y100, zrw_ne (by decide)]; exact t4
    · unfold ZC at *
      rw [yo 122 (by decide) (by decide), yo 123 (by decide) (by decide), xo 122 (by decide) (by decide), xo 123 (by decide) (by decide)]; exact t5
  · have zl : zw (L + 8) = L + 8 := zw_i (by omega) (by omega)
    have c1 : ¬ L < 0 := by omega
    refine ⟨-3, R, m, m, ?_, ?_, Rel_K h (by omega), fun _ _ _ => rfl⟩
    · have A : ev 33 0 [(2, 63), (1, v), (8, 0), (9, 0)] [] R m = some ((0, 0), R, m) := by
        simp only [s33_0, s33_1, s33_4, s33_7, s33_8, s33_11, s33_13, s33_14, s33_17, s33_20, s33_21, s33_22, s33_23, s33_25, s33_27, s33_30, s33_31, s33_34, s33_35, s33_38, s33_39, s33_40, s33_41, s33_43, s33_45, s33_46, s33_47, s33_48, s33_49, s33_50, s33_53, s33_54, s33_55, s33_58, s33_61, s33_62, s33_63, s33_66, s33_68, s33_69, s33_72, s33_73, zps_0, zps_1, zps_2, zps_3, zps_9, Option.bind_some, Option.bind_none, Int.reduceEq, Int.reduceNe, Int.reduceLT, Int.reduceLE, Int.reduceNeg, Int.reduceAdd, Int.reduceSub, Int.reduceMul, reduceIte, if_true, if_false, true_and, and_true, false_and, and_false, or_true, true_or, or_false, false_or, not_true_eq_false, not_false_eq_true, ite_not, z_b0, z_b1, z_b01, rXK0 hXK, rXK1 hXK, rXK2 hXK, rXK3 hXK, kXK0, kXK1, kXK2, kXK3, kXK4, kXK5, kXK6, kXK7, kXK8, t1, c1, zl, c, if_true, if_false]
      simp only [s186_0, s186_1, s186_4, s186_5, s186_8, s186_11, s186_12, s186_15, s186_18, s186_21, s186_23, zps_0, zps_1, zps_2, zps_3, zps_9, Option.bind_some, Option.bind_none, Int.reduceEq, Int.reduceNe, Int.reduceLT, Int.reduceLE, Int.reduceNeg, Int.reduceAdd, Int.reduceSub, Int.reduceMul, reduceIte, if_true, if_false, true_and, and_true, false_and, and_false, or_true, true_or, or_false, false_or, not_true_eq_false, not_false_eq_true, ite_not, z_b0, z_b1, z_b01, rGK0 hGK, rGK1 hGK, rGK2 hGK, rGK3 hGK, rGK4 hGK, rGK5 hGK, rGK6 hGK, rGK7 hGK, rGK8 hGK, rGK9 hGK, kGK0, rXK0 hXK, rXK1 hXK, rXK2 hXK, rXK3 hXK, kXK0, kXK1, kXK2, kXK3, kXK4, kXK5, kXK6, kXK7, kXK8, A, if_true, if_false]
    · simp only [s239_0, s239_1, s239_4, s239_6, s239_7, s239_10, s239_13, s239_15, s239_16, s239_18, s239_20, s239_23, s239_24, s239_27, s239_28, s239_31, s239_32, s239_33, s239_34, s239_35, s239_38, s239_39, s239_40, s239_41, s239_42, s239_45, s239_46, s239_47, s239_50, s239_53, s239_56, s239_57, s239_60, zps_0, zps_1, zps_2, zps_3, zps_9, Option.bind_some, Option.bind_none, Int.reduceEq, Int.reduceNe, Int.reduceLT, Int.reduceLE, Int.reduceNeg, Int.reduceAdd, Int.reduceSub, Int.reduceMul, reduceIte, if_true, if_false, true_and, and_true, false_and, and_false, or_true, true_or, or_false, false_or, not_true_eq_false, not_false_eq_true, ite_not, z_b0, z_b1, z_b01, rMK0 hM, rMK1 hM, rMK2 hM, rMK3 hM, rMK4 hM, rMK5 hM, rMK6 hM, rMK7 hM, rMK8 hM, rMK9 hM, rMK10 hM, rMK11 hM, rMK12 hM, rMK13 hM, rMK14 hM, rMK15 hM, rMK16 hM, rMK17 hM, rMK18 hM, rMK19 hM, rMK20 hM, rMK21 hM, rMK22 hM, rMK23 hM, rMK24 hM, rMK25 hM, rMK26 hM, rMK27 hM, rMK28 hM, rMK29 hM, rMK30 hM, rMK31 hM, rMK32 hM, rMK33 hM, rMK34 hM, rMK35 hM, rMK36 hM, rMK37 hM, rMK38 hM, rMK39 hM, rMK40 hM, rMK41 hM, rMK42 hM, rMK43 hM, rMK44 hM, rMK45 hM, rMK46 hM, rMK47 hM, rMK48 hM, rMK49 hM, rMK50 hM, rMK51 hM, kMK0, kMK1, kMK2, kMK3, kMK4, kMK5, kMK6, kMK7, kMK8, kMK9, kMK10, kMK11, kMK12, kMK13, kMK14, kMK15, kMK16, kMK17, kMK18, kMK19, kMK20, kMK21, kMK22, kMK23, kMK24, kMK25, kMK26, kMK27, kMK28, kMK29, kMK30, kMK31, kMK32, kMK33, kMK34, kMK35, kMK36, kMK37, kMK38, kMK39, kMK40, kMK41, kMK42, kMK43, kMK44, kMK45, kMK46, kMK47, kMK48, kMK49, kMK50, kMK51, kMK52, kMK53, kMK54, kMK55, kMK56, kMK57, kMK58, kMK59, kMK60, kMK61, kMK62, kMK63, kMK64, kMK65, kMK66, kMK67, kMK68, kMK69, kMK70, kMK71, kMK72, kMK73, kMK74, kMK75, kMK76, kMK77, kMK78, kMK79, kMK80, kMK81, kMK82, kMK83, kMK84, kMK85, kMK86, kMK87, kMK88, kMK89, kMK90, kMK91, kMK92, kMK93, kMK94, kMK95, kMK96, kMK97, kMK98, kMK99, kMK100, kMK101, kMK102, kMK103, kMK104, hL, zl, c, if_true, if_false]
end FEEDX
