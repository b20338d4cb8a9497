/-! the board begins, is made -/
theorem zwh {w h : Int} (hw : 1 ≤ w) (hw2 : w ≤ 8) (hh : 1 ≤ h) (hh2 : h ≤ 8) : 1 ≤ w * h ∧ w * h ≤ 64 := by
  have h1 : w * h ≤ 8 * 8 := Int.mul_le_mul hw2 hh2 (by omega) (by omega)
  have h2 : 0 < w * h := Int.mul_pos (by omega) (by omega)
  omega
/-- the board as it was at first -/
def BN (m : zM) (o w h : Int) : Prop := BV m o ∧ NV m o ∧ m o 0 = w ∧ m o 1 = h ∧ m o 2 = w * h ∧ (∀ p, 0 ≤ p → p < 64 → m (o + 1) p = 0 ∧ m (o + 2) p = 0 ∧ m (o + 3) p = 0) ∧ (∀ i, 0 ≤ i → i < 5 → m (o + 4) i = 0)
section BOARD3
variable {o : Int} {R m : zM}
theorem tz_bbegin (hB : BK R o) {w h : Int} (hw : 1 ≤ w ∧ w ≤ 8) (hh : 1 ≤ h ∧ h ≤ 8) (hC : 0 ≤ m o 3 ∧ m o 3 < 2000000000) (hN : m o 0 = w → m o 1 = h → ∀ p, 0 ≤ p → p < w * h → NF w (w * h) (m (o + 5)) p) :
    ∃ m' : zM, ev 13 0 [(2, o), (0, w), (0, h), (9, 0)] [] R m = some ((9, 0), R, m') ∧ zfr [o, o + 1, o + 2, o + 3, o + 4, o + 5] m m' ∧ BN m' o w h ∧ m' o 3 = m o 3 + 1 := by
  have hwh := zwh hw.1 hw.2 hh.1 hh.2
  have MN := fun m' : zM => tz_measureNear (m := m') hB
  obtain ⟨hBK0, hBK1, hBK2, hBK3, hBK4, hBK5, hBK6, hBK7, hBK8, hBK9, hBK10, hBK11, hBK12, hBK13, hBK14, hBK15⟩ := hB
  have F1 := fun m' : zM => tz_fill (a := o + 1) (n := 64) 0 (R := R) (m := m') (by assumption) (by assumption) (by omega) (by omega)
  have F2 := fun m' : zM => tz_fill (a := o + 2) (n := 64) 0 (R := R) (m := m') (by assumption) (by assumption) (by omega) (by omega)
  have F3 := fun m' : zM => tz_fill (a := o + 3) (n := 64) 0 (R := R) (m := m') (by assumption) (by assumption) (by omega) (by omega)
  have F4 := fun m' : zM => tz_fillJ (a := o + 4) (n := 5) 0 (R := R) (m := m') (by assumption) (by assumption) (by omega) (by omega)
  let row : Int → Int := zrw (zrw (zrw (zrw (m o) 0 w) 1 h) 2 (w * h)) 3 (m o 3 + 1)
  have hrow : row 0 = w ∧ row 1 = h ∧ row 2 = w * h ∧ row 3 = m o 3 + 1 := by
    refine ⟨?_, ?_, ?_, ?_⟩ <;> simp [row, zrw]
  let m1 : zM := zpr (zpr (zpr (zpr (zpr m o row) (o + 1) (zfll (m (o + 1)) 64 0)) (o + 2) (zfll (m (o + 2)) 64 0)) (o + 3) (zfll (m (o + 3)) 64 0)) (o + 4) (zfll (m (o + 4)) 5 0)
  have r0 : m1 o = row := by
    show zpr _ _ _ _ = _
    simp (disch := omega) only [zpr_ne, zpr_at]
  have r1 : m1 (o + 1) = zfll (m (o + 1)) 64 0 := by
    show zpr _ _ _ _ = _
    simp (disch := omega) only [zpr_ne, zpr_at]
  have r2 : m1 (o + 2) = zfll (m (o + 2)) 64 0 := by
    show zpr _ _ _ _ = _
    simp (disch := omega) only [zpr_ne, zpr_at]
  have r3 : m1 (o + 3) = zfll (m (o + 3)) 64 0 := by
    show zpr _ _ _ _ = _
    simp (disch := omega) only [zpr_ne, zpr_at]
  have r4 : m1 (o + 4) = zfll (m (o + 4)) 5 0 := by
    show zpr _ _ _ _ = _
    simp (disch := omega) only [zpr_ne, zpr_at]
  have r5 : m1 (o + 5) = m (o + 5) := by
    show zpr _ _ _ _ = _
    simp (disch := omega) only [zpr_ne, zpr_at]
  have hfr : zfr [o, o + 1, o + 2, o + 3, o + 4, o + 5] m m1 := by
    intro a ha
    simp only [List.mem_cons, List.not_mem_nil, or_false, not_or] at ha
    show zpr _ _ _ _ = _
    simp (disch := omega) only [zpr_ne]
  have hV : BV m1 o := by
    unfold BV
    rw [r0, r1, r2, r3]
    refine ⟨by omega, by omega, by omega, by omega, by rw [hrow.1, hrow.2.1, hrow.2.2.1], by omega, by omega, fun p h1 h2 => ?_⟩
    rw [zfll_at ⟨h1, by omega⟩, zfll_at ⟨h1, by omega⟩, zfll_at ⟨h1, by omega⟩]
    omega
  have b0 : (∀ p, 0 ≤ p → p < 64 → m1 (o + 1) p = 0 ∧ m1 (o + 2) p = 0 ∧ m1 (o + 3) p = 0) := by
    intro p h1 h2
    rw [r1, r2, r3, zfll_at ⟨h1, by omega⟩, zfll_at ⟨h1, by omega⟩, zfll_at ⟨h1, by omega⟩]
    exact ⟨rfl, rfl, rfl⟩
  have b4 : (∀ i, 0 ≤ i → i < 5 → m1 (o + 4) i = 0) := by
    intro p h1 h2
    rw [r4, zfll_at ⟨h1, by omega⟩]
  have e1 : ev 13 0 [(2, o), (0, w), (0, h), (9, 0)] [] R m = if m o 0 = w ∧ m o 1 = h then some ((9, 0), R, m1) else (ev 14 0 [(2, o), (9, 0), (9, 0), (9, 0), (9, 0)] [] R m1).bind fun r => ev 13 110 [(2, o), (0, w), (0, h), (0, 0)] (zps r.1 []) r.2.1 r.2.2 := by
    have n1 : zw (m o 3 + 1) = m o 3 + 1 := zw_i (by omega) (by omega)
    have n2 : zw (w * h) = w * h := zw_i (by omega) (by omega)
    have c3 : ∀ f : Int → Int, zrw (zrw (zrw f 0 w) 1 h) 2 (w * h) 3 = f 3 := by intro f; simp [zrw]
    simp (disch := omega) only [s13_0, s13_1, s13_2, s13_4, s13_7, s13_10, s13_11, s13_12, s13_14, s13_17, s13_20, s13_21, s13_22, s13_23, s13_26, s13_29, s13_30, s13_31, s13_34, s13_37, s13_38, s13_41, s13_42, s13_43, s13_44, s13_45, s13_48, s13_49, s13_50, s13_53, s13_54, s13_55, s13_56, s13_57, s13_60, s13_61, s13_62, s13_65, s13_66, s13_67, s13_70, s13_71, s13_74, s13_75, s13_78, s13_79, s13_82, s13_83, s13_86, s13_87, s13_90, s13_91, s13_94, s13_95, s13_98, s13_99, s13_102, s13_103, s13_106, s13_107, s13_110, zps_0, zps_1, zps_2, zps_3, zps_9, Option.bind_some, Option.bind_none, Int.reduceEq, Int.reduceNe, Int.reduceLT, Int.reduceLE, Int.reduceNeg, Int.reduceAdd, Int.reduceSub, Int.reduceMul, reduceIte, if_true, if_false, true_and, and_true, false_and, and_false, or_true, true_or, or_false, false_or, not_true_eq_false, not_false_eq_true, ite_not, z_b0, z_b1, z_b01, hBK0, hBK1, hBK2, hBK3, hBK4, hBK5, hBK6, hBK7, hBK8, hBK9, hBK10, hBK11, hBK12, hBK13, hBK14, hBK15, tz_within, F1, F2, F3, F4, hw, hh, zup_zpr, zpr_at, zpr_zpr, zrw_at, zpr_ne, n1, n2, c3]
    by_cases q1 : w = m o 0
    · by_cases q2 : h = m o 1
      · rw [if_pos q1, if_pos q2, if_pos ⟨q1.symm, q2.symm⟩]
      · rw [if_pos q1, if_neg q2, if_neg (fun z => q2 z.2.symm)]
    · rw [if_neg q1, if_neg (fun z => q1 z.1.symm)]
  rw [e1]
  by_cases hs : m o 0 = w ∧ m o 1 = h
  · rw [if_pos hs]
    refine ⟨m1, rfl, hfr, ⟨hV, ?_, by rw [r0]; exact hrow.1, by rw [r0]; exact hrow.2.1, by rw [r0]; exact hrow.2.2.1, b0, b4⟩, by rw [r0]; exact hrow.2.2.2⟩
    intro p h1 h2
    rw [r0, hrow.2.2.1] at h2
    rw [r0, r5, hrow.1, hrow.2.2.1]
    exact hN hs.1 hs.2 p h1 h2
  · rw [if_neg hs]
    obtain ⟨f, g1, g2⟩ := MN m1 hV
    rw [g1]
    simp only [zps_0, zps_1, zps_2, zps_3, zps_9, Option.bind_some, Option.bind_none, Int.reduceEq, Int.reduceNe, Int.reduceLT, Int.reduceLE, Int.reduceNeg, Int.reduceAdd, Int.reduceSub, Int.reduceMul, reduceIte, if_true, if_false, true_and, and_true, false_and, and_false, or_true, true_or, or_false, false_or, not_true_eq_false, not_false_eq_true, ite_not, z_b0, z_b1, z_b01, s13_110]
    have q : ∀ a, a ≠ o + 5 → zpr m1 (o + 5) f a = m1 a := fun a ha => zpr_ne ha
    refine ⟨zpr m1 (o + 5) f, rfl, ?_, ⟨BV_zpr (by omega) (by omega) (by omega) (by omega) hV, g2, ?_, ?_, ?_, ?_, ?_⟩, ?_⟩
    · intro a ha
      rw [q a (by intro h; apply ha; simp [h])]
      exact hfr a ha
    · rw [q _ (by omega), r0]; exact hrow.1
    · rw [q _ (by omega), r0]; exact hrow.2.1
    · rw [q _ (by omega), r0]; exact hrow.2.2.1
    · rw [q _ (by omega), q _ (by omega), q _ (by omega)]; exact b0
    · rw [q _ (by omega)]; exact b4
    · rw [q _ (by omega), r0]; exact hrow.2.2.2
end BOARD3
