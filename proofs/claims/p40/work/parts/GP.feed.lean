/-! feed -/
section FEEDX
variable {R m x y w z : zM} {p q t u S0 K Y to a b L : Int} {n : Nat}
def tByte (v s : Int) : Int := zw (z6s (fun x y => x >>> (y.toInt64 &&& 63)) v s) % 256
theorem tz_append (hXK : XK R) (hL : m 63 0 = L) (h0 : 0 ≤ L ∧ L + 8 ≤ 320) (v : Int) : ∃ f : Int → Int, ev 33 0 [(2, 63), (1, v), (8, 0), (9, 0)] [] R m = some ((0, 1), R, zpr (zpr m 64 f) 63 (zrw (m 63) 0 (L + 8))) ∧ (∀ i, 0 ≤ i → i < 8 → f (L + i) = tByte v (56 - 8 * i)) ∧ ∀ j, ¬ (L ≤ j ∧ j < L + 8) → f j = m 64 j := by
  have zl : zw (L + 8) = L + 8 := zw_i (by omega) (by omega)
  have c1 : ¬ L < 0 := by omega
  have c2 : L + 8 ≤ 320 := h0.2
  have L0 : ev 33 0 [(2, 63), (1, v), (8, 0), (9, 0)] [] R m = ev 33 24 [(2, 63), (1, v), (8, 0), (0, 0)] [] R (zpr m 64 (m 64)) := by
    rw [zpr_self]
    simp only [s33_0, s33_1, s33_4, s33_7, s33_8, s33_11, s33_13, s33_14, s33_17, s33_20, s33_21, s33_22, s33_23, s33_25, s33_27, s33_30, s33_31, s33_34, s33_35, s33_38, s33_39, s33_40, s33_41, s33_43, s33_45, s33_46, s33_47, s33_48, s33_49, s33_50, s33_53, s33_54, s33_55, s33_58, s33_61, s33_62, s33_63, s33_66, s33_68, s33_69, s33_72, s33_73, zps_0, zps_1, zps_2, zps_3, zps_9, Option.bind_some, Option.bind_none, Int.reduceEq, Int.reduceNe, Int.reduceLT, Int.reduceLE, Int.reduceNeg, Int.reduceAdd, Int.reduceSub, Int.reduceMul, reduceIte, if_true, if_false, true_and, and_true, false_and, and_false, or_true, true_or, or_false, false_or, not_true_eq_false, not_false_eq_true, ite_not, z_b0, z_b1, z_b01, rXK0 hXK, rXK1 hXK, rXK2 hXK, rXK3 hXK, kXK0, kXK1, kXK2, kXK3, kXK4, kXK5, kXK6, kXK7, kXK8, hL, c1, zl, c2, if_true, if_false]
  rw [L0]
  refine zloop (fun r => ∃ f : Int → Int, r = some ((0, 1), R, zpr (zpr m 64 f) 63 (zrw (m 63) 0 (L + 8))) ∧ (∀ i, 0 ≤ i → i < 8 → f (L + i) = tByte v (56 - 8 * i)) ∧ ∀ j, ¬ (L ≤ j ∧ j < L + 8) → f j = m 64 j) (fun i (g : Int → Int) => ev 33 24 [(2, 63), (1, v), (8, 0), (0, i)] [] R (zpr m 64 g)) 8 (fun i g => 0 ≤ i ∧ (∀ k, 0 ≤ k → k < i → g (L + k) = tByte v (56 - 8 * k)) ∧ ∀ j, ¬ (L ≤ j ∧ j < L + 8) → g j = m 64 j) ?_ ?_ 0 (m 64) (by omega) ⟨by omega, fun k k0 k1 => by omega, fun j hj => rfl⟩
  · rintro i g hi ⟨i0, hI, hJ⟩ ih
    have d1 : ¬ 8 ≤ i := by omega
    have z1 : zw (L + i) = L + i := zw_i (by omega) (by omega)
    have z2 : zw (8 * i) = 8 * i := zw_i (by omega) (by omega)
    have z3 : zw (56 - 8 * i) = 56 - 8 * i := zw_i (by omega) (by omega)
    have z4 : zw (i + 1) = i + 1 := zw_i (by omega) (by omega)
    have c3 : 0 ≤ L + i ∧ L + i < 320 := by omega
    have e63 : ∀ g : Int → Int, zpr m 64 g 63 = m 63 := fun g => zpr_ne (by decide)
    have B := z_byte v (s := 56 - 8 * i) (by omega)
    rw [s33_24]
    simp only [s33_0, s33_1, s33_4, s33_7, s33_8, s33_11, s33_13, s33_14, s33_17, s33_20, s33_21, s33_22, s33_23, s33_25, s33_27, s33_30, s33_31, s33_34, s33_35, s33_38, s33_39, s33_40, s33_41, s33_43, s33_45, s33_46, s33_47, s33_48, s33_49, s33_50, s33_53, s33_54, s33_55, s33_58, s33_62, s33_63, s33_66, s33_68, s33_69, s33_72, s33_73, zps_0, zps_1, zps_2, zps_3, zps_9, Option.bind_some, Option.bind_none, Int.reduceEq, Int.reduceNe, Int.reduceLT, Int.reduceLE, Int.reduceNeg, Int.reduceAdd, Int.reduceSub, Int.reduceMul, reduceIte, if_true, if_false, true_and, and_true, false_and, and_false, or_true, true_or, or_false, false_or, not_true_eq_false, not_false_eq_true, ite_not, z_b0, z_b1, z_b01, rXK0 hXK, rXK1 hXK, rXK2 hXK, rXK3 hXK, kXK0, kXK1, kXK2, kXK3, kXK4, kXK5, kXK6, kXK7, kXK8, e63, hL, hi, d1, z1, z2, z3, z4, c3, z_and255, B, and_self, if_true, if_false, zup_zpr, zpr_at, zpr_zpr]
    refine ih _ ⟨by omega, fun k k0 k1 => ?_, fun j hj => ?_⟩
    · rw [zrw_if]
      by_cases e : k = i
      · rw [if_pos (by omega), e]; rfl
      · rw [if_neg (by omega)]; exact hI k k0 (by omega)
    · rw [zrw_ne (by omega)]; exact hJ j hj
  · rintro g ⟨-, hI, hJ⟩
    refine ⟨g, ?_, hI, hJ⟩
    have e63 : ∀ g : Int → Int, zpr m 64 g 63 = m 63 := fun g => zpr_ne (by decide)
    rw [s33_24]
    simp only [s33_0, s33_1, s33_4, s33_7, s33_8, s33_11, s33_13, s33_14, s33_17, s33_20, s33_21, s33_22, s33_23, s33_25, s33_27, s33_30, s33_31, s33_34, s33_35, s33_38, s33_39, s33_40, s33_41, s33_43, s33_45, s33_46, s33_47, s33_48, s33_49, s33_50, s33_53, s33_54, s33_55, s33_58, s33_61, s33_62, s33_63, s33_66, s33_68, s33_69, s33_72, s33_73, zps_0, zps_1, zps_2, zps_3, zps_9, Option.bind_some, Option.bind_none, Int.reduceEq, Int.reduceNe, Int.reduceLT, Int.reduceLE, Int.reduceNeg, Int.reduceAdd, Int.reduceSub, Int.reduceMul, reduceIte, if_true, if_false, true_and, and_true, false_and, and_false, or_true, true_or, or_false, false_or, not_true_eq_false, not_false_eq_true, ite_not, z_b0, z_b1, z_b01, rXK0 hXK, rXK1 hXK, rXK2 hXK, rXK3 hXK, kXK0, kXK1, kXK2, kXK3, kXK4, kXK5, kXK6, kXK7, kXK8, e63, hL, zl, Int.le_refl, if_true, zup_zpr]
end FEEDX
