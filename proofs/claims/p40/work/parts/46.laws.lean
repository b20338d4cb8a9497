/-! the laws' methods -/
def zholds (n : Int) (L : Int → Int) (k y : Int) : Bool := decide (L (7 * k + 1) ≤ y) && (decide (L (7 * k) = 0 ∨ L (7 * k) = 1) || !zany (fun q => decide (L (7 * q) = L (7 * k) ∧ L (7 * q + 2) = L (7 * k + 2) ∧ L (7 * q + 1) ≤ y ∧ L (7 * k + 1) < L (7 * q + 1))) n.toNat)
def znum (L : Int → Int) (a u y : Int) : Nat → Int × Int
  | 0 => (-1, -1)
  | k + 1 => if L (7 * (k : Int)) = a ∧ L (7 * (k : Int) + 2) = u ∧ L (7 * (k : Int) + 1) ≤ y ∧ (znum L a u y k).2 < L (7 * (k : Int) + 1) then (L (7 * (k : Int) + 3), L (7 * (k : Int) + 1)) else znum L a u y k
def zinz (L : Int → Int) (x y yr k : Int) : Bool := decide (L (7 * k) = 0 ∧ L (7 * k + 1) ≤ yr ∧ (L (7 * k + 3) ≤ x ∧ x ≤ L (7 * k + 5)) ∧ (L (7 * k + 4) ≤ y ∧ y ≤ L (7 * k + 6)))
def zzon (n : Int) (L : Int → Int) (u x y yr : Int) : Bool := !zany (zinz L x y yr) n.toNat || zany (fun k => zinz L x y yr k && decide (L (7 * k + 2) = u)) n.toNat
def zr7 (f : Int → Int) (k : Int) (g : Int → Int) : Int → Int := fun i => if 7 * k ≤ i ∧ i < 7 * k + 7 then g (i - 7 * k) else f i
def zlo (lo j : Int) : Int := if 0 ≤ lo ∧ lo ≤ j then j + 1 else j
section LAWS
variable {o : Int} {R m : zM}
theorem tz_lfull (hB : LK R o) : ev 60 0 [(2, o)] [] R m = some ((0, if 12 ≤ m o 0 then 1 else 0), R, m) := by
  obtain ⟨hLK0, hLK1, hLK2, hLK3⟩ := hB
  simp only [s60_0, s60_1, s60_4, s60_6, s60_9, s60_10, s60_13, s60_14, zps_0, zps_1, zps_2, zps_3, zps_9, Option.bind_some, Option.bind_none, Int.reduceEq, Int.reduceNe, Int.reduceLT, Int.reduceLE, Int.reduceNeg, Int.reduceAdd, Int.reduceSub, Int.reduceMul, reduceIte, if_true, if_false, true_and, and_true, false_and, and_false, or_true, true_or, or_false, false_or, not_true_eq_false, not_false_eq_true, ite_not, z_b0, z_b1, z_b01, hLK0, hLK1, hLK2, hLK3]
  (repeat' split) <;> first | rfl | (exfalso; omega)
theorem tz_at (hB : LK R o) (hV : m o 0 ≤ 12) {k i : Int} (h1 : 0 ≤ k) (h2 : k < m o 0) (h3 : 0 ≤ i) (h4 : i < 7) : ev 62 0 [(2, o), (0, k), (0, i)] [] R m = some ((0, m (o + 1) (7 * k + i)), R, m) := by
  obtain ⟨hLK0, hLK1, hLK2, hLK3⟩ := hB
  simp only [s62_0, s62_1, s62_4, s62_5, s62_6, s62_9, s62_12, s62_13, s62_16, s62_17, s62_19, s62_22, s62_23, s62_26, s62_27, s62_29, s62_30, s62_31, s62_32, s62_33, s62_36, s62_37, zps_0, zps_1, zps_2, zps_3, zps_9, Option.bind_some, Option.bind_none, Int.reduceEq, Int.reduceNe, Int.reduceLT, Int.reduceLE, Int.reduceNeg, Int.reduceAdd, Int.reduceSub, Int.reduceMul, reduceIte, if_true, if_false, true_and, and_true, false_and, and_false, or_true, true_or, or_false, false_or, not_true_eq_false, not_false_eq_true, ite_not, z_b0, z_b1, z_b01, hLK0, hLK1, hLK2, hLK3]
  simp (disch := omega) only [if_neg, zw_i, if_pos]
  rw [Int.mul_comm]
theorem tz_lput (hB : LK R o) (hV : m o 0 ≤ 12) {k i : Int} (h1 : 0 ≤ k) (h2 : k < m o 0) (h3 : 0 ≤ i) (h4 : i < 7) (v : Int) : ev 64 0 [(2, o), (0, k), (0, i), (0, v)] [] R m = some ((9, 0), R, zpr m (o + 1) (zrw (m (o + 1)) (7 * k + i) v)) := by
  obtain ⟨hLK0, hLK1, hLK2, hLK3⟩ := hB
  simp only [s64_0, s64_1, s64_4, s64_5, s64_6, s64_9, s64_12, s64_13, s64_16, s64_17, s64_19, s64_22, s64_23, s64_26, s64_27, s64_29, s64_30, s64_31, s64_32, s64_33, s64_34, zps_0, zps_1, zps_2, zps_3, zps_9, Option.bind_some, Option.bind_none, Int.reduceEq, Int.reduceNe, Int.reduceLT, Int.reduceLE, Int.reduceNeg, Int.reduceAdd, Int.reduceSub, Int.reduceMul, reduceIte, if_true, if_false, true_and, and_true, false_and, and_false, or_true, true_or, or_false, false_or, not_true_eq_false, not_false_eq_true, ite_not, z_b0, z_b1, z_b01, hLK0, hLK1, hLK2, hLK3]
  simp (disch := omega) only [if_neg, zw_i, if_pos, zup_zpr, zpr_at, zpr_zpr, zrw_at]
  rw [Int.mul_comm]
theorem tz_ladd (hB : LK R o) (hV : 0 ≤ m o 0 ∧ m o 0 < 12) (a b : Int) : ev 63 0 [(2, o), (0, a), (0, b), (9, 0), (9, 0)] [] R m = some ((0, m o 0), R, zpr (zpr m o (zrw (m o) 0 (m o 0 + 1))) (o + 1) (zr7 (m (o + 1)) (m o 0) (fun j => if j = 0 then a else if j = 1 then b else 0))) := by
  have A := tz_lfull (m := m) hB
  have h12 : ¬ 12 ≤ m o 0 := by omega
  obtain ⟨M1, hM1⟩ : ∃ M1 : (Int → Int) → zM, ∀ f, M1 f = zpr (zpr m o (zrw (m o) 0 (m o 0 + 1))) (o + 1) f := ⟨_, fun _ => rfl⟩
  have e0 : ∀ f, M1 f o = zrw (m o) 0 (m o 0 + 1) := by
    intro f
    rw [hM1]
    simp (disch := omega) only [zpr_ne, zpr_at]
  have e1 : ∀ f, M1 f (o + 1) = f := fun f => by rw [hM1, zpr_at]
  have P := fun (f : Int → Int) (i v : Int) (h3 : 0 ≤ i) (h4 : i < 7) => tz_lput (m := M1 f) (k := m o 0) (i := i) hB (by rw [e0, zrw_at]; omega) (by omega) (by rw [e0, zrw_at]; omega) h3 h4 v
  have P2 : ∀ (f : Int → Int) (i v : Int), 0 ≤ i → i < 7 → ev 64 0 [(2, o), (0, m o 0), (0, i), (0, v)] [] R (M1 f) = some ((9, 0), R, M1 (zrw f (7 * m o 0 + i) v)) := by
    intro f i v h3 h4
    rw [P f i v h3 h4, e1, hM1, hM1, zpr_zpr]
  obtain ⟨hLK0, hLK1, hLK2, hLK3⟩ := hB
  simp only [s63_0, s63_1, s63_4, s63_7, s63_8, s63_9, s63_10, s63_13, s63_14, s63_15, s63_16, s63_19, s63_20, s63_21, s63_24, s63_25, s63_29, s63_31, s63_34, s63_35, s63_36, s63_38, s63_39, s63_42, s63_45, s63_48, s63_49, s63_50, s63_51, s63_52, s63_55, s63_56, s63_57, s63_58, s63_59, s63_62, s63_63, zps_0, zps_1, zps_2, zps_3, zps_9, Option.bind_some, Option.bind_none, Int.reduceEq, Int.reduceNe, Int.reduceLT, Int.reduceLE, Int.reduceNeg, Int.reduceAdd, Int.reduceSub, Int.reduceMul, reduceIte, if_true, if_false, true_and, and_true, false_and, and_false, or_true, true_or, or_false, false_or, not_true_eq_false, not_false_eq_true, ite_not, z_b0, z_b1, z_b01, hLK0, hLK1, hLK2, hLK3, A, h12, zup_zpr, zpr_at, zpr_zpr, zrw_at, zw_i (x := m o 0 + 1) (by omega) (by omega)]
  have hM : zpr m o (zrw (m o) 0 (m o 0 + 1)) = M1 (m (o + 1)) := by
    rw [hM1, show m (o + 1) = zpr m o (zrw (m o) 0 (m o 0 + 1)) (o + 1) from (zpr_ne (by omega)).symm, zpr_self]
  rw [hM, show ∀ X, zpr (M1 (m (o + 1))) (o + 1) X = M1 X from fun X => by rw [hM1, hM1, zpr_zpr]]
  refine zloop (fun r => r = some ((0, m o 0), R, M1 (zr7 (m (o + 1)) (m o 0) (fun j => if j = 0 then a else if j = 1 then b else 0)))) (fun i f => ev 63 27 [(2, o), (0, a), (0, b), (0, m o 0), (0, i)] [] R (M1 f)) 7 (fun i f => 0 ≤ i ∧ f = fun j => if 7 * m o 0 ≤ j ∧ j < 7 * m o 0 + i then 0 else m (o + 1) j) ?_ ?_ 0 (m (o + 1)) (by omega) ⟨by omega, ?_⟩
  · intro i f hi ⟨h0, hf⟩ ih
    rw [s63_27]
    simp (disch := omega) only [s63_0, s63_1, s63_4, s63_7, s63_8, s63_9, s63_10, s63_13, s63_14, s63_15, s63_16, s63_19, s63_20, s63_21, s63_24, s63_25, s63_29, s63_31, s63_34, s63_35, s63_36, s63_38, s63_39, s63_42, s63_45, s63_48, s63_49, s63_50, s63_51, s63_52, s63_55, s63_56, s63_57, s63_58, s63_59, s63_62, s63_63, zps_0, zps_1, zps_2, zps_3, zps_9, Option.bind_some, Option.bind_none, Int.reduceEq, Int.reduceNe, Int.reduceLT, Int.reduceLE, Int.reduceNeg, Int.reduceAdd, Int.reduceSub, Int.reduceMul, reduceIte, if_true, if_false, true_and, and_true, false_and, and_false, or_true, true_or, or_false, false_or, not_true_eq_false, not_false_eq_true, ite_not, z_b0, z_b1, z_b01, hLK0, hLK1, hLK2, hLK3, if_neg, P2 f i 0 h0 hi, zw_i]
    refine ih _ ⟨by omega, ?_⟩
    subst hf
    funext j
    rw [zrw_if]
    (repeat' split) <;> first | rfl | (exfalso; omega)
  · intro f ⟨h0, hf⟩
    rw [s63_27]
    have hP0 := fun f => P2 f 0 a (by omega) (by omega)
    have hP1 := fun f => P2 f 1 b (by omega) (by omega)
    simp only [s63_0, s63_1, s63_4, s63_7, s63_8, s63_9, s63_10, s63_13, s63_14, s63_15, s63_16, s63_19, s63_20, s63_21, s63_24, s63_25, s63_29, s63_31, s63_34, s63_35, s63_36, s63_38, s63_39, s63_42, s63_45, s63_48, s63_49, s63_50, s63_51, s63_52, s63_55, s63_56, s63_57, s63_58, s63_59, s63_62, s63_63, zps_0, zps_1, zps_2, zps_3, zps_9, Option.bind_some, Option.bind_none, Int.reduceEq, Int.reduceNe, Int.reduceLT, Int.reduceLE, Int.reduceNeg, Int.reduceAdd, Int.reduceSub, Int.reduceMul, reduceIte, if_true, if_false, true_and, and_true, false_and, and_false, or_true, true_or, or_false, false_or, not_true_eq_false, not_false_eq_true, ite_not, z_b0, z_b1, z_b01, hLK0, hLK1, hLK2, hLK3, hP0, hP1]
    have : zrw (zrw f (7 * m o 0 + 0) a) (7 * m o 0 + 1) b = zr7 (m (o + 1)) (m o 0) (fun j => if j = 0 then a else if j = 1 then b else 0) := ?_
    · rw [this]
    subst hf
    funext j
    rw [zrw_if, zrw_if]
    unfold zr7
    dsimp only
    (repeat' split) <;> first | rfl | (exfalso; omega)
  · funext j
    rw [if_neg (by omega)]
theorem tz_ltell (hB : LK R o) (hV : 0 ≤ m o 0 ∧ m o 0 ≤ 12) (a u b : Int) : ev 61 0 [(2, o), (0, a), (0, u), (0, b), (9, 0)] [] R m = some ((0, if zany (fun k => decide (m (o + 1) (7 * k) = a ∧ m (o + 1) (7 * k + 2) = u ∧ m (o + 1) (7 * k + 1) = b)) (m o 0).toNat = true then 1 else 0), R, m) := by
  have A := fun k i h1 h2 h3 h4 => tz_at (m := m) (k := k) (i := i) hB hV.2 h1 h2 h3 h4
  obtain ⟨hLK0, hLK1, hLK2, hLK3⟩ := hB
  simp only [s61_0, s61_1, s61_5, s61_6, s61_9, s61_12, s61_13, s61_15, s61_16, s61_19, s61_20, s61_23, s61_24, s61_26, s61_27, s61_30, s61_31, s61_34, s61_35, s61_37, s61_38, s61_41, s61_42, s61_45, s61_46, s61_47, s61_50, s61_53, s61_54, zps_0, zps_1, zps_2, zps_3, zps_9, Option.bind_some, Option.bind_none, Int.reduceEq, Int.reduceNe, Int.reduceLT, Int.reduceLE, Int.reduceNeg, Int.reduceAdd, Int.reduceSub, Int.reduceMul, reduceIte, if_true, if_false, true_and, and_true, false_and, and_false, or_true, true_or, or_false, false_or, not_true_eq_false, not_false_eq_true, ite_not, z_b0, z_b1, z_b01, hLK0, hLK1, hLK2, hLK3]
  refine zloop (fun r => r = some ((0, if zany (fun k => decide (m (o + 1) (7 * k) = a ∧ m (o + 1) (7 * k + 2) = u ∧ m (o + 1) (7 * k + 1) = b)) (m o 0).toNat = true then 1 else 0), R, m)) (fun k (_ : Unit) => ev 61 3 [(2, o), (0, a), (0, u), (0, b), (0, k)] [] R m) (m o 0) (fun k _ => 0 ≤ k ∧ zany (fun k => decide (m (o + 1) (7 * k) = a ∧ m (o + 1) (7 * k + 2) = u ∧ m (o + 1) (7 * k + 1) = b)) k.toNat = false) ?_ ?_ 0 () (by omega) ⟨by omega, rfl⟩
  · intro k _ hk ⟨h0, hI⟩ ih
    rw [s61_3]
    simp (disch := omega) only [s61_0, s61_1, s61_5, s61_6, s61_9, s61_12, s61_13, s61_15, s61_16, s61_19, s61_20, s61_23, s61_24, s61_26, s61_27, s61_30, s61_31, s61_34, s61_35, s61_37, s61_38, s61_41, s61_42, s61_45, s61_46, s61_47, s61_50, s61_53, s61_54, zps_0, zps_1, zps_2, zps_3, zps_9, Option.bind_some, Option.bind_none, Int.reduceEq, Int.reduceNe, Int.reduceLT, Int.reduceLE, Int.reduceNeg, Int.reduceAdd, Int.reduceSub, Int.reduceMul, reduceIte, if_true, if_false, true_and, and_true, false_and, and_false, or_true, true_or, or_false, false_or, not_true_eq_false, not_false_eq_true, ite_not, z_b0, z_b1, z_b01, hLK0, hLK1, hLK2, hLK3, if_neg (show ¬ m o 0 ≤ k by omega), A, zw_i, Int.add_zero]
    have ih2 := fun h => ih () ⟨by omega, h⟩
    rw [zany_step _ h0, hI, Bool.false_or, decide_eq_false_iff_not] at ih2
    by_cases hc : m (o + 1) (7 * k) = a ∧ m (o + 1) (7 * k + 2) = u ∧ m (o + 1) (7 * k + 1) = b
    · rw [if_pos hc.1, if_pos hc.2.1, if_pos hc.2.2, if_pos]
      exact (zany_iff _ _).mpr ⟨k, h0, by omega, by simpa using hc⟩
    · have := ih2 hc
      by_cases c1 : m (o + 1) (7 * k) = a
      · by_cases c2 : m (o + 1) (7 * k + 2) = u
        · rw [if_pos c1, if_pos c2, if_neg (fun c3 => hc ⟨c1, c2, c3⟩)]; exact this
        · rw [if_pos c1, if_neg c2]; exact this
      · rw [if_neg c1]; exact this
  · intro _ ⟨h0, hI⟩
    rw [s61_3]
    simp (disch := omega) only [s61_0, s61_1, s61_5, s61_6, s61_9, s61_12, s61_13, s61_15, s61_16, s61_19, s61_20, s61_23, s61_24, s61_26, s61_27, s61_30, s61_31, s61_34, s61_35, s61_37, s61_38, s61_41, s61_42, s61_45, s61_46, s61_47, s61_50, s61_53, s61_54, zps_0, zps_1, zps_2, zps_3, zps_9, Option.bind_some, Option.bind_none, Int.reduceEq, Int.reduceNe, Int.reduceLT, Int.reduceLE, Int.reduceNeg, Int.reduceAdd, Int.reduceSub, Int.reduceMul, reduceIte, if_true, if_false, true_and, and_true, false_and, and_false, or_true, true_or, or_false, false_or, not_true_eq_false, not_false_eq_true, ite_not, z_b0, z_b1, z_b01, hLK0, hLK1, hLK2, hLK3, if_pos (show m o 0 ≤ m o 0 by omega), hI]
    simp
theorem tz_lnumber (hB : LK R o) (hV : 0 ≤ m o 0 ∧ m o 0 ≤ 12) (a u y : Int) : ev 69 0 [(2, o), (0, a), (0, u), (0, y), (9, 0), (9, 0), (9, 0), (9, 0)] [] R m = some ((0, (znum (m (o + 1)) a u y (m o 0).toNat).1), R, m) := by
  have A := fun k i h1 h2 h3 h4 => tz_at (m := m) (k := k) (i := i) hB hV.2 h1 h2 h3 h4
  obtain ⟨hLK0, hLK1, hLK2, hLK3⟩ := hB
  simp only [s69_0, s69_1, s69_3, s69_4, s69_6, s69_7, s69_11, s69_12, s69_15, s69_18, s69_19, s69_21, s69_22, s69_25, s69_27, s69_28, s69_30, s69_31, s69_34, s69_35, s69_38, s69_39, s69_41, s69_42, s69_45, s69_46, s69_49, s69_51, s69_52, s69_55, s69_57, s69_59, s69_62, s69_65, s69_66, s69_68, s69_69, s69_72, s69_74, s69_76, s69_78, s69_81, s69_84, s69_86, zps_0, zps_1, zps_2, zps_3, zps_9, Option.bind_some, Option.bind_none, Int.reduceEq, Int.reduceNe, Int.reduceLT, Int.reduceLE, Int.reduceNeg, Int.reduceAdd, Int.reduceSub, Int.reduceMul, reduceIte, if_true, if_false, true_and, and_true, false_and, and_false, or_true, true_or, or_false, false_or, not_true_eq_false, not_false_eq_true, ite_not, z_b0, z_b1, z_b01, hLK0, hLK1, hLK2, hLK3]
  refine zloop (fun r => r = some ((0, (znum (m (o + 1)) a u y (m o 0).toNat).1), R, m)) (fun k (s : Int × Int × zV) => ev 69 9 [(2, o), (0, a), (0, u), (0, y), (0, s.1), (0, s.2.1), (0, k), s.2.2] [] R m) (m o 0) (fun k s => 0 ≤ k ∧ (s.1, s.2.1) = znum (m (o + 1)) a u y k.toNat) ?_ ?_ 0 (-1, -1, (9, 0)) (by omega) ⟨by omega, rfl⟩
  · intro k ⟨s1, s2, l7⟩ hk ⟨h0, hI⟩ ih
    rw [s69_9]
    simp (disch := omega) only [s69_0, s69_1, s69_3, s69_4, s69_6, s69_7, s69_11, s69_12, s69_15, s69_18, s69_19, s69_21, s69_22, s69_25, s69_27, s69_28, s69_30, s69_31, s69_34, s69_35, s69_38, s69_39, s69_41, s69_42, s69_45, s69_46, s69_49, s69_51, s69_52, s69_55, s69_57, s69_59, s69_62, s69_65, s69_66, s69_68, s69_69, s69_72, s69_74, s69_76, s69_78, s69_81, s69_84, s69_86, zps_0, zps_1, zps_2, zps_3, zps_9, Option.bind_some, Option.bind_none, Int.reduceEq, Int.reduceNe, Int.reduceLT, Int.reduceLE, Int.reduceNeg, Int.reduceAdd, Int.reduceSub, Int.reduceMul, reduceIte, if_true, if_false, true_and, and_true, false_and, and_false, or_true, true_or, or_false, false_or, not_true_eq_false, not_false_eq_true, ite_not, z_b0, z_b1, z_b01, hLK0, hLK1, hLK2, hLK3, if_neg (show ¬ m o 0 ≤ k by omega), A, zw_i, Int.add_zero]
    have ih2 := fun s h => ih s ⟨by omega, h⟩
    have e : (k + 1).toNat = k.toNat + 1 := by omega
    have e2 : ((k.toNat : Nat) : Int) = k := by omega
    dsimp only at hI
    rw [e] at ih2
    simp only [znum, e2, ← hI] at ih2
    by_cases hc : m (o + 1) (7 * k) = a ∧ m (o + 1) (7 * k + 2) = u ∧ m (o + 1) (7 * k + 1) ≤ y ∧ s2 < m (o + 1) (7 * k + 1)
    · rw [if_pos hc.1, if_pos hc.2.1, if_neg (by omega), if_pos (by omega)]
      exact ih2 (m (o + 1) (7 * k + 3), m (o + 1) (7 * k + 1), (0, m (o + 1) (7 * k + 1))) (by rw [if_pos hc])
    · have := ih2 (s1, s2, (0, m (o + 1) (7 * k + 1))) (by rw [if_neg hc])
      (repeat' split) <;> first | exact this | (exfalso; omega)
  · intro ⟨s1, s2, l7⟩ ⟨h0, hI⟩
    rw [s69_9]
    simp (disch := omega) only [s69_0, s69_1, s69_3, s69_4, s69_6, s69_7, s69_11, s69_12, s69_15, s69_18, s69_19, s69_21, s69_22, s69_25, s69_27, s69_28, s69_30, s69_31, s69_34, s69_35, s69_38, s69_39, s69_41, s69_42, s69_45, s69_46, s69_49, s69_51, s69_52, s69_55, s69_57, s69_59, s69_62, s69_65, s69_66, s69_68, s69_69, s69_72, s69_74, s69_76, s69_78, s69_81, s69_84, s69_86, zps_0, zps_1, zps_2, zps_3, zps_9, Option.bind_some, Option.bind_none, Int.reduceEq, Int.reduceNe, Int.reduceLT, Int.reduceLE, Int.reduceNeg, Int.reduceAdd, Int.reduceSub, Int.reduceMul, reduceIte, if_true, if_false, true_and, and_true, false_and, and_false, or_true, true_or, or_false, false_or, not_true_eq_false, not_false_eq_true, ite_not, z_b0, z_b1, z_b01, hLK0, hLK1, hLK2, hLK3, if_pos (show m o 0 ≤ m o 0 by omega)]
    rw [← hI]
theorem tz_lzones (hB : LK R o) (hV : 0 ≤ m o 0 ∧ m o 0 ≤ 12) (u x y yr : Int) : ev 68 0 [(2, o), (0, u), (0, x), (0, y), (0, yr), (9, 0), (9, 0)] [] R m = some ((0, if zzon (m o 0) (m (o + 1)) u x y yr = true then 1 else 0), R, m) := by
  have A := fun k i h1 h2 h3 h4 => tz_at (m := m) (k := k) (i := i) hB hV.2 h1 h2 h3 h4
  obtain ⟨hLK0, hLK1, hLK2, hLK3⟩ := hB
  simp only [s68_0, s68_1, s68_3, s68_4, s68_8, s68_9, s68_12, s68_15, s68_16, s68_18, s68_19, s68_22, s68_25, s68_26, s68_28, s68_29, s68_32, s68_34, s68_37, s68_40, s68_41, s68_42, s68_44, s68_45, s68_48, s68_49, s68_51, s68_52, s68_55, s68_58, s68_61, s68_62, s68_63, s68_65, s68_66, s68_69, s68_70, s68_72, s68_74, s68_77, s68_80, s68_83, s68_86, s68_87, s68_89, s68_90, s68_93, s68_94, s68_97, s68_98, s68_99, s68_100, s68_102, s68_105, s68_108, s68_110, s68_113, s68_114, s68_117, s68_118, zps_0, zps_1, zps_2, zps_3, zps_9, Option.bind_some, Option.bind_none, Int.reduceEq, Int.reduceNe, Int.reduceLT, Int.reduceLE, Int.reduceNeg, Int.reduceAdd, Int.reduceSub, Int.reduceMul, reduceIte, if_true, if_false, true_and, and_true, false_and, and_false, or_true, true_or, or_false, false_or, not_true_eq_false, not_false_eq_true, ite_not, z_b0, z_b1, z_b01, hLK0, hLK1, hLK2, hLK3]
  refine zloop (fun r => r = some ((0, if zzon (m o 0) (m (o + 1)) u x y yr = true then 1 else 0), R, m)) (fun k (s : Bool) => ev 68 6 [(2, o), (0, u), (0, x), (0, y), (0, yr), (0, if s = true then 1 else 0), (0, k)] [] R m) (m o 0) (fun k s => 0 ≤ k ∧ s = zany (zinz (m (o + 1)) x y yr) k.toNat ∧ zany (fun k => zinz (m (o + 1)) x y yr k && decide (m (o + 1) (7 * k + 2) = u)) k.toNat = false) ?_ ?_ 0 false (by omega) ⟨by omega, rfl, rfl⟩
  · intro k s hk ⟨h0, hI, hJ⟩ ih
    rw [s68_6]
    simp (disch := omega) only [s68_0, s68_1, s68_3, s68_4, s68_8, s68_9, s68_12, s68_15, s68_16, s68_18, s68_19, s68_22, s68_25, s68_26, s68_28, s68_29, s68_32, s68_34, s68_37, s68_40, s68_41, s68_42, s68_44, s68_45, s68_48, s68_49, s68_51, s68_52, s68_55, s68_58, s68_61, s68_62, s68_63, s68_65, s68_66, s68_69, s68_70, s68_72, s68_74, s68_77, s68_80, s68_83, s68_86, s68_87, s68_89, s68_90, s68_93, s68_94, s68_97, s68_98, s68_99, s68_100, s68_102, s68_105, s68_108, s68_110, s68_113, s68_114, s68_117, s68_118, zps_0, zps_1, zps_2, zps_3, zps_9, Option.bind_some, Option.bind_none, Int.reduceEq, Int.reduceNe, Int.reduceLT, Int.reduceLE, Int.reduceNeg, Int.reduceAdd, Int.reduceSub, Int.reduceMul, reduceIte, if_true, if_false, true_and, and_true, false_and, and_false, or_true, true_or, or_false, false_or, not_true_eq_false, not_false_eq_true, ite_not, z_b0, z_b1, z_b01, hLK0, hLK1, hLK2, hLK3, if_neg (show ¬ m o 0 ≤ k by omega), A, zw_i, Int.add_zero, tz_within]
    have ih2 := fun s h => ih s ⟨by omega, h⟩
    simp only [zany_step _ h0, ← hI, hJ, Bool.false_or] at ih2
    by_cases hc : zinz (m (o + 1)) x y yr k = true
    · rw [hc] at ih2
      unfold zinz at hc
      rw [decide_eq_true_eq] at hc
      rw [if_pos hc.1, if_pos hc.2.1, if_pos hc.2.2.1, if_pos hc.2.2.2]
      by_cases hu : m (o + 1) (7 * k + 2) = u
      · rw [if_pos hu, if_pos]
        unfold zzon
        rw [Bool.or_eq_true]
        right
        exact (zany_iff _ _).mpr ⟨k, h0, by omega, by unfold zinz; simp [hu]; omega⟩
      · rw [if_neg hu]
        exact ih2 true ⟨by simp, by simp [hu]⟩
    · rw [Bool.not_eq_true] at hc
      rw [hc] at ih2
      have := ih2 s ⟨by simp, by simp⟩
      unfold zinz at hc
      rw [decide_eq_false_iff_not] at hc
      by_cases c1 : m (o + 1) (7 * k) = 0
      · rw [if_pos c1]
        by_cases c2 : m (o + 1) (7 * k + 1) ≤ yr
        · rw [if_pos c2]
          by_cases c3 : m (o + 1) (7 * k + 3) ≤ x ∧ x ≤ m (o + 1) (7 * k + 5)
          · rw [if_pos c3]
            by_cases c4 : m (o + 1) (7 * k + 4) ≤ y ∧ y ≤ m (o + 1) (7 * k + 6)
            · exact absurd ⟨c1, c2, c3, c4⟩ hc
            · rw [if_neg c4]; exact this
          · rw [if_neg c3]; exact this
        · rw [if_neg c2]; exact this
      · rw [if_neg c1]; exact this
  · intro s ⟨h0, hI, hJ⟩
    rw [s68_6]
    simp (disch := omega) only [s68_0, s68_1, s68_3, s68_4, s68_8, s68_9, s68_12, s68_15, s68_16, s68_18, s68_19, s68_22, s68_25, s68_26, s68_28, s68_29, s68_32, s68_34, s68_37, s68_40, s68_41, s68_42, s68_44, s68_45, s68_48, s68_49, s68_51, s68_52, s68_55, s68_58, s68_61, s68_62, s68_63, s68_65, s68_66, s68_69, s68_70, s68_72, s68_74, s68_77, s68_80, s68_83, s68_86, s68_87, s68_89, s68_90, s68_93, s68_94, s68_97, s68_98, s68_99, s68_100, s68_102, s68_105, s68_108, s68_110, s68_113, s68_114, s68_117, s68_118, zps_0, zps_1, zps_2, zps_3, zps_9, Option.bind_some, Option.bind_none, Int.reduceEq, Int.reduceNe, Int.reduceLT, Int.reduceLE, Int.reduceNeg, Int.reduceAdd, Int.reduceSub, Int.reduceMul, reduceIte, if_true, if_false, true_and, and_true, false_and, and_false, or_true, true_or, or_false, false_or, not_true_eq_false, not_false_eq_true, ite_not, z_b0, z_b1, z_b01, hLK0, hLK1, hLK2, hLK3, if_pos (show m o 0 ≤ m o 0 by omega)]
    unfold zzon
    rw [hJ, ← hI]
    cases s <;> simp
end LAWS
