/-! the seekers' methods -/
def zwai (m : zM) (o s y : Int) : Bool := decide (m (o + 4) s ≤ y ∧ m (o + 5) s = -4 ∧ m (o + 6) s = 0)
/-- the plot of the greatest value of those that can be asked, and its value -/
def zbp (can : Int → Bool) (v : Int → Int) : Nat → Int × Int
  | 0 => (-4, 0)
  | p + 1 => if can p = true ∧ (zbp can v p).2 < v p then ((p : Int), v p) else zbp can v p
theorem zbp_bd (can : Int → Bool) (v : Int → Int) (n : Nat) : ((zbp can v n).1 = -4 ∧ (zbp can v n).2 = 0) ∨ (0 ≤ (zbp can v n).1 ∧ (zbp can v n).1 < n ∧ can (zbp can v n).1 = true ∧ (zbp can v n).2 = v (zbp can v n).1 ∧ 0 < (zbp can v n).2) := by
  induction n with
  | zero => exact Or.inl ⟨rfl, rfl⟩
  | succ n ih =>
    simp only [zbp]
    split
    next h =>
      right
      refine ⟨by omega, by simp only []; omega, h.1, rfl, ?_⟩
      rcases ih with ih | ih
      · have := h.2; rw [ih.2] at this; exact this
      · have := h.2; have := ih.2.2.2.2; simp only []; omega
    next h =>
      rcases ih with ih | ih
      · exact Or.inl ih
      · exact Or.inr ⟨ih.1, by omega, ih.2.2⟩
section SEEKERS
variable {o : Int} {R m : zM}
theorem tz_shas (hB : SK R o) (hV : m o 0 ≤ 20) (s : Int) : ev 89 0 [(2, o), (0, s)] [] R m = some ((0, if 0 ≤ s ∧ s < m o 0 then 1 else 0), R, m) := by
  obtain ⟨hSK0, hSK1, hSK2, hSK3, hSK4, hSK5, hSK6, hSK7, hSK8, hSK9, hSK10, hSK11, hSK12, hSK13, hSK14, hSK15, hSK16, hSK17, hSK18, hSK19, hSK20, hSK21, hSK22, hSK23, hSK24, hSK25, hSK26, hSK27, hSK28, hSK29, hSK30, hSK31, hSK32, hSK33, hSK34, hSK35, hSK36, hSK37, hSK38, hSK39, hSK40, hSK41, hSK42, hSK43, hSK44, hSK45⟩ := hB
  simp only [s89_0, s89_1, s89_4, s89_5, s89_6, s89_9, s89_12, s89_13, s89_15, s89_18, s89_19, s89_22, s89_23, zps_0, zps_1, zps_2, zps_3, zps_9, Option.bind_some, Option.bind_none, Int.reduceEq, Int.reduceNe, Int.reduceLT, Int.reduceLE, Int.reduceNeg, Int.reduceAdd, Int.reduceSub, Int.reduceMul, reduceIte, if_true, if_false, true_and, and_true, false_and, and_false, or_true, true_or, or_false, false_or, not_true_eq_false, not_false_eq_true, ite_not, z_b0, z_b1, z_b01, hSK0, hSK1, hSK2, hSK3, hSK4, hSK5, hSK6, hSK7, hSK8, hSK9, hSK10, hSK11, hSK12, hSK13, hSK14, hSK15, hSK16, hSK17, hSK18, hSK19, hSK20, hSK21, hSK22, hSK23, hSK24, hSK25, hSK26, hSK27, hSK28, hSK29, hSK30, hSK31, hSK32, hSK33, hSK34, hSK35, hSK36, hSK37, hSK38, hSK39, hSK40, hSK41, hSK42, hSK43, hSK44, hSK45]
  (repeat' split) <;> first | rfl | (exfalso; omega)
theorem tz_suse (hB : SK R o) (hV : m o 0 ≤ 20) {s : Int} (h : 0 ≤ s ∧ s < m o 0) : ev 104 0 [(2, o), (0, s)] [] R m = some ((0, m (o + 1) s), R, m) := by
  have H := tz_shas (m := m) hB hV s
  obtain ⟨hSK0, hSK1, hSK2, hSK3, hSK4, hSK5, hSK6, hSK7, hSK8, hSK9, hSK10, hSK11, hSK12, hSK13, hSK14, hSK15, hSK16, hSK17, hSK18, hSK19, hSK20, hSK21, hSK22, hSK23, hSK24, hSK25, hSK26, hSK27, hSK28, hSK29, hSK30, hSK31, hSK32, hSK33, hSK34, hSK35, hSK36, hSK37, hSK38, hSK39, hSK40, hSK41, hSK42, hSK43, hSK44, hSK45⟩ := hB
  simp only [s104_0, s104_1, s104_2, s104_5, s104_8, s104_9, s104_12, s104_13, s104_14, s104_17, s104_18, zps_0, zps_1, zps_2, zps_3, zps_9, Option.bind_some, Option.bind_none, Int.reduceEq, Int.reduceNe, Int.reduceLT, Int.reduceLE, Int.reduceNeg, Int.reduceAdd, Int.reduceSub, Int.reduceMul, reduceIte, if_true, if_false, true_and, and_true, false_and, and_false, or_true, true_or, or_false, false_or, not_true_eq_false, not_false_eq_true, ite_not, z_b0, z_b1, z_b01, hSK0, hSK1, hSK2, hSK3, hSK4, hSK5, hSK6, hSK7, hSK8, hSK9, hSK10, hSK11, hSK12, hSK13, hSK14, hSK15, hSK16, hSK17, hSK18, hSK19, hSK20, hSK21, hSK22, hSK23, hSK24, hSK25, hSK26, hSK27, hSK28, hSK29, hSK30, hSK31, hSK32, hSK33, hSK34, hSK35, hSK36, hSK37, hSK38, hSK39, hSK40, hSK41, hSK42, hSK43, hSK44, hSK45, H, h]
  rw [if_pos (by omega)]
theorem tz_splot (hB : SK R o) (hV : m o 0 ≤ 20) {s : Int} (h : 0 ≤ s ∧ s < m o 0) : ev 88 0 [(2, o), (0, s)] [] R m = some ((0, m (o + 5) s), R, m) := by
  have H := tz_shas (m := m) hB hV s
  obtain ⟨hSK0, hSK1, hSK2, hSK3, hSK4, hSK5, hSK6, hSK7, hSK8, hSK9, hSK10, hSK11, hSK12, hSK13, hSK14, hSK15, hSK16, hSK17, hSK18, hSK19, hSK20, hSK21, hSK22, hSK23, hSK24, hSK25, hSK26, hSK27, hSK28, hSK29, hSK30, hSK31, hSK32, hSK33, hSK34, hSK35, hSK36, hSK37, hSK38, hSK39, hSK40, hSK41, hSK42, hSK43, hSK44, hSK45⟩ := hB
  simp only [s88_0, s88_1, s88_2, s88_5, s88_8, s88_9, s88_12, s88_13, s88_14, s88_17, s88_19, zps_0, zps_1, zps_2, zps_3, zps_9, Option.bind_some, Option.bind_none, Int.reduceEq, Int.reduceNe, Int.reduceLT, Int.reduceLE, Int.reduceNeg, Int.reduceAdd, Int.reduceSub, Int.reduceMul, reduceIte, if_true, if_false, true_and, and_true, false_and, and_false, or_true, true_or, or_false, false_or, not_true_eq_false, not_false_eq_true, ite_not, z_b0, z_b1, z_b01, hSK0, hSK1, hSK2, hSK3, hSK4, hSK5, hSK6, hSK7, hSK8, hSK9, hSK10, hSK11, hSK12, hSK13, hSK14, hSK15, hSK16, hSK17, hSK18, hSK19, hSK20, hSK21, hSK22, hSK23, hSK24, hSK25, hSK26, hSK27, hSK28, hSK29, hSK30, hSK31, hSK32, hSK33, hSK34, hSK35, hSK36, hSK37, hSK38, hSK39, hSK40, hSK41, hSK42, hSK43, hSK44, hSK45, H, h]
  rw [if_pos (by omega)]
theorem tz_sheld (hB : SK R o) (hV : m o 0 ≤ 20) {s : Int} (h : 0 ≤ s ∧ s < m o 0) : ev 98 0 [(2, o), (0, s)] [] R m = some ((0, m (o + 9) s), R, m) := by
  have H := tz_shas (m := m) hB hV s
  obtain ⟨hSK0, hSK1, hSK2, hSK3, hSK4, hSK5, hSK6, hSK7, hSK8, hSK9, hSK10, hSK11, hSK12, hSK13, hSK14, hSK15, hSK16, hSK17, hSK18, hSK19, hSK20, hSK21, hSK22, hSK23, hSK24, hSK25, hSK26, hSK27, hSK28, hSK29, hSK30, hSK31, hSK32, hSK33, hSK34, hSK35, hSK36, hSK37, hSK38, hSK39, hSK40, hSK41, hSK42, hSK43, hSK44, hSK45⟩ := hB
  simp only [s98_0, s98_1, s98_2, s98_5, s98_8, s98_9, s98_12, s98_13, s98_14, s98_17, s98_19, zps_0, zps_1, zps_2, zps_3, zps_9, Option.bind_some, Option.bind_none, Int.reduceEq, Int.reduceNe, Int.reduceLT, Int.reduceLE, Int.reduceNeg, Int.reduceAdd, Int.reduceSub, Int.reduceMul, reduceIte, if_true, if_false, true_and, and_true, false_and, and_false, or_true, true_or, or_false, false_or, not_true_eq_false, not_false_eq_true, ite_not, z_b0, z_b1, z_b01, hSK0, hSK1, hSK2, hSK3, hSK4, hSK5, hSK6, hSK7, hSK8, hSK9, hSK10, hSK11, hSK12, hSK13, hSK14, hSK15, hSK16, hSK17, hSK18, hSK19, hSK20, hSK21, hSK22, hSK23, hSK24, hSK25, hSK26, hSK27, hSK28, hSK29, hSK30, hSK31, hSK32, hSK33, hSK34, hSK35, hSK36, hSK37, hSK38, hSK39, hSK40, hSK41, hSK42, hSK43, hSK44, hSK45, H, h]
  rw [if_pos (by omega)]
theorem tz_sowner (hB : SK R o) (hV : 0 ≤ m o 0 ∧ m o 0 ≤ 20) (p : Int) : ∃ r : Int, ev 87 0 [(2, o), (0, p), (9, 0)] [] R m = some ((0, r), R, m) ∧ ((r = -4 ∧ ∀ s, 0 ≤ s → s < m o 0 → m (o + 5) s ≠ p) ∨ (0 ≤ r ∧ r < m o 0 ∧ m (o + 5) r = p ∧ ∀ s, 0 ≤ s → s < r → m (o + 5) s ≠ p)) := by
  have A := fun s h1 h2 => tz_splot (m := m) (s := s) hB hV.2 ⟨h1, h2⟩
  obtain ⟨hSK0, hSK1, hSK2, hSK3, hSK4, hSK5, hSK6, hSK7, hSK8, hSK9, hSK10, hSK11, hSK12, hSK13, hSK14, hSK15, hSK16, hSK17, hSK18, hSK19, hSK20, hSK21, hSK22, hSK23, hSK24, hSK25, hSK26, hSK27, hSK28, hSK29, hSK30, hSK31, hSK32, hSK33, hSK34, hSK35, hSK36, hSK37, hSK38, hSK39, hSK40, hSK41, hSK42, hSK43, hSK44, hSK45⟩ := hB
  simp only [s87_0, s87_1, s87_3, s87_4, s87_7, s87_10, s87_11, s87_12, s87_15, s87_16, s87_19, s87_20, s87_21, s87_24, s87_27, s87_29, zps_0, zps_1, zps_2, zps_3, zps_9, Option.bind_some, Option.bind_none, Int.reduceEq, Int.reduceNe, Int.reduceLT, Int.reduceLE, Int.reduceNeg, Int.reduceAdd, Int.reduceSub, Int.reduceMul, reduceIte, if_true, if_false, true_and, and_true, false_and, and_false, or_true, true_or, or_false, false_or, not_true_eq_false, not_false_eq_true, ite_not, z_b0, z_b1, z_b01, hSK0, hSK1, hSK2, hSK3, hSK4, hSK5, hSK6, hSK7, hSK8, hSK9, hSK10, hSK11, hSK12, hSK13, hSK14, hSK15, hSK16, hSK17, hSK18, hSK19, hSK20, hSK21, hSK22, hSK23, hSK24, hSK25, hSK26, hSK27, hSK28, hSK29, hSK30, hSK31, hSK32, hSK33, hSK34, hSK35, hSK36, hSK37, hSK38, hSK39, hSK40, hSK41, hSK42, hSK43, hSK44, hSK45]
  refine zloop (fun q => ∃ r : Int, q = some ((0, r), R, m) ∧ ((r = -4 ∧ ∀ s, 0 ≤ s → s < m o 0 → m (o + 5) s ≠ p) ∨ (0 ≤ r ∧ r < m o 0 ∧ m (o + 5) r = p ∧ ∀ s, 0 ≤ s → s < r → m (o + 5) s ≠ p))) (fun k (_ : Unit) => ev 87 2 [(2, o), (0, p), (0, k)] [] R m) (m o 0) (fun k _ => 0 ≤ k ∧ ∀ s, 0 ≤ s → s < k → m (o + 5) s ≠ p) ?_ ?_ 0 () (by omega) ⟨by omega, fun s h1 h2 => by omega⟩
  · intro k _ hk ⟨h0, hI⟩ ih
    rw [s87_2]
    simp (disch := omega) only [s87_0, s87_1, s87_3, s87_4, s87_7, s87_10, s87_11, s87_12, s87_15, s87_16, s87_19, s87_20, s87_21, s87_24, s87_27, s87_29, zps_0, zps_1, zps_2, zps_3, zps_9, Option.bind_some, Option.bind_none, Int.reduceEq, Int.reduceNe, Int.reduceLT, Int.reduceLE, Int.reduceNeg, Int.reduceAdd, Int.reduceSub, Int.reduceMul, reduceIte, if_true, if_false, true_and, and_true, false_and, and_false, or_true, true_or, or_false, false_or, not_true_eq_false, not_false_eq_true, ite_not, z_b0, z_b1, z_b01, hSK0, hSK1, hSK2, hSK3, hSK4, hSK5, hSK6, hSK7, hSK8, hSK9, hSK10, hSK11, hSK12, hSK13, hSK14, hSK15, hSK16, hSK17, hSK18, hSK19, hSK20, hSK21, hSK22, hSK23, hSK24, hSK25, hSK26, hSK27, hSK28, hSK29, hSK30, hSK31, hSK32, hSK33, hSK34, hSK35, hSK36, hSK37, hSK38, hSK39, hSK40, hSK41, hSK42, hSK43, hSK44, hSK45, if_neg (show ¬ m o 0 ≤ k by omega), A, zw_i]
    by_cases hc : m (o + 5) k = p
    · rw [if_pos hc]
      exact ⟨k, rfl, Or.inr ⟨h0, hk, hc, hI⟩⟩
    · rw [if_neg hc]
      refine ih () ⟨by omega, fun s h1 h2 => ?_⟩
      by_cases hs : s = k
      · subst hs; exact hc
      · exact hI s h1 (by omega)
  · intro _ ⟨h0, hI⟩
    rw [s87_2]
    simp only [s87_0, s87_1, s87_3, s87_4, s87_7, s87_10, s87_11, s87_12, s87_15, s87_16, s87_19, s87_20, s87_21, s87_24, s87_27, s87_29, zps_0, zps_1, zps_2, zps_3, zps_9, Option.bind_some, Option.bind_none, Int.reduceEq, Int.reduceNe, Int.reduceLT, Int.reduceLE, Int.reduceNeg, Int.reduceAdd, Int.reduceSub, Int.reduceMul, reduceIte, if_true, if_false, true_and, and_true, false_and, and_false, or_true, true_or, or_false, false_or, not_true_eq_false, not_false_eq_true, ite_not, z_b0, z_b1, z_b01, hSK0, hSK1, hSK2, hSK3, hSK4, hSK5, hSK6, hSK7, hSK8, hSK9, hSK10, hSK11, hSK12, hSK13, hSK14, hSK15, hSK16, hSK17, hSK18, hSK19, hSK20, hSK21, hSK22, hSK23, hSK24, hSK25, hSK26, hSK27, hSK28, hSK29, hSK30, hSK31, hSK32, hSK33, hSK34, hSK35, hSK36, hSK37, hSK38, hSK39, hSK40, hSK41, hSK42, hSK43, hSK44, hSK45, if_pos (show m o 0 ≤ m o 0 by omega)]
    exact ⟨-4, rfl, Or.inl ⟨rfl, hI⟩⟩
theorem tz_swaits (hB : SK R o) (hV : m o 0 ≤ 20) {s : Int} (h : 0 ≤ s ∧ s < m o 0) (y : Int) : ev 94 0 [(2, o), (0, s), (0, y)] [] R m = some ((0, if zwai m o s y = true then 1 else 0), R, m) := by
  have H := tz_shas (m := m) hB hV s
  obtain ⟨hSK0, hSK1, hSK2, hSK3, hSK4, hSK5, hSK6, hSK7, hSK8, hSK9, hSK10, hSK11, hSK12, hSK13, hSK14, hSK15, hSK16, hSK17, hSK18, hSK19, hSK20, hSK21, hSK22, hSK23, hSK24, hSK25, hSK26, hSK27, hSK28, hSK29, hSK30, hSK31, hSK32, hSK33, hSK34, hSK35, hSK36, hSK37, hSK38, hSK39, hSK40, hSK41, hSK42, hSK43, hSK44, hSK45⟩ := hB
  simp only [s94_0, s94_1, s94_2, s94_5, s94_8, s94_9, s94_12, s94_13, s94_14, s94_15, s94_18, s94_19, s94_22, s94_23, s94_24, s94_26, s94_29, s94_30, s94_33, s94_34, s94_35, s94_38, s94_39, s94_42, s94_43, zps_0, zps_1, zps_2, zps_3, zps_9, Option.bind_some, Option.bind_none, Int.reduceEq, Int.reduceNe, Int.reduceLT, Int.reduceLE, Int.reduceNeg, Int.reduceAdd, Int.reduceSub, Int.reduceMul, reduceIte, if_true, if_false, true_and, and_true, false_and, and_false, or_true, true_or, or_false, false_or, not_true_eq_false, not_false_eq_true, ite_not, z_b0, z_b1, z_b01, hSK0, hSK1, hSK2, hSK3, hSK4, hSK5, hSK6, hSK7, hSK8, hSK9, hSK10, hSK11, hSK12, hSK13, hSK14, hSK15, hSK16, hSK17, hSK18, hSK19, hSK20, hSK21, hSK22, hSK23, hSK24, hSK25, hSK26, hSK27, hSK28, hSK29, hSK30, hSK31, hSK32, hSK33, hSK34, hSK35, hSK36, hSK37, hSK38, hSK39, hSK40, hSK41, hSK42, hSK43, hSK44, hSK45, H, h]
  unfold zwai
  simp only [decide_eq_true_eq]
  (repeat' split) <;> first | rfl | (exfalso; omega)
theorem tz_sleave (hB : SK R o) (hV : m o 0 ≤ 20) (s : Int) : ev 90 0 [(2, o), (0, s)] [] R m = some ((9, 0), R, if 0 ≤ s ∧ s < m o 0 then zpr (zpr m (o + 5) (zrw (m (o + 5)) s (-4))) (o + 6) (zrw (m (o + 6)) s 1) else m) := by
  have H := tz_shas (m := m) hB hV s
  obtain ⟨hSK0, hSK1, hSK2, hSK3, hSK4, hSK5, hSK6, hSK7, hSK8, hSK9, hSK10, hSK11, hSK12, hSK13, hSK14, hSK15, hSK16, hSK17, hSK18, hSK19, hSK20, hSK21, hSK22, hSK23, hSK24, hSK25, hSK26, hSK27, hSK28, hSK29, hSK30, hSK31, hSK32, hSK33, hSK34, hSK35, hSK36, hSK37, hSK38, hSK39, hSK40, hSK41, hSK42, hSK43, hSK44, hSK45⟩ := hB
  simp only [s90_0, s90_1, s90_2, s90_5, s90_8, s90_9, s90_10, s90_13, s90_14, s90_16, s90_17, s90_18, s90_21, s90_22, s90_23, s90_24, zps_0, zps_1, zps_2, zps_3, zps_9, Option.bind_some, Option.bind_none, Int.reduceEq, Int.reduceNe, Int.reduceLT, Int.reduceLE, Int.reduceNeg, Int.reduceAdd, Int.reduceSub, Int.reduceMul, reduceIte, if_true, if_false, true_and, and_true, false_and, and_false, or_true, true_or, or_false, false_or, not_true_eq_false, not_false_eq_true, ite_not, z_b0, z_b1, z_b01, hSK0, hSK1, hSK2, hSK3, hSK4, hSK5, hSK6, hSK7, hSK8, hSK9, hSK10, hSK11, hSK12, hSK13, hSK14, hSK15, hSK16, hSK17, hSK18, hSK19, hSK20, hSK21, hSK22, hSK23, hSK24, hSK25, hSK26, hSK27, hSK28, hSK29, hSK30, hSK31, hSK32, hSK33, hSK34, hSK35, hSK36, hSK37, hSK38, hSK39, hSK40, hSK41, hSK42, hSK43, hSK44, hSK45, H]
  by_cases h : 0 ≤ s ∧ s < m o 0
  · simp (disch := omega) only [if_pos, zup_zpr, zpr_at, zpr_zpr, zrw_at, zpr_ne]
  · rw [if_neg h, if_neg h]
theorem tz_sown (hB : SK R o) (hV : m o 0 ≤ 20) {s : Int} (h : 0 ≤ s ∧ s < m o 0) (y : Int) : ev 103 0 [(2, o), (0, s), (0, y)] [] R m = some ((9, 0), R, zpr (zpr (zpr m (o + 5) (zrw (m (o + 5)) s (m (o + 9) s))) (o + 7) (zrw (m (o + 7)) s (m (o + 10) s))) (o + 8) (zrw (m (o + 8)) s y)) := by
  have H := tz_shas (m := m) hB hV s
  obtain ⟨hSK0, hSK1, hSK2, hSK3, hSK4, hSK5, hSK6, hSK7, hSK8, hSK9, hSK10, hSK11, hSK12, hSK13, hSK14, hSK15, hSK16, hSK17, hSK18, hSK19, hSK20, hSK21, hSK22, hSK23, hSK24, hSK25, hSK26, hSK27, hSK28, hSK29, hSK30, hSK31, hSK32, hSK33, hSK34, hSK35, hSK36, hSK37, hSK38, hSK39, hSK40, hSK41, hSK42, hSK43, hSK44, hSK45⟩ := hB
  simp only [s103_0, s103_1, s103_2, s103_5, s103_8, s103_9, s103_10, s103_13, s103_14, s103_15, s103_18, s103_19, s103_20, s103_21, s103_22, s103_25, s103_26, s103_27, s103_30, s103_31, s103_32, s103_33, s103_34, s103_37, s103_38, s103_39, s103_40, zps_0, zps_1, zps_2, zps_3, zps_9, Option.bind_some, Option.bind_none, Int.reduceEq, Int.reduceNe, Int.reduceLT, Int.reduceLE, Int.reduceNeg, Int.reduceAdd, Int.reduceSub, Int.reduceMul, reduceIte, if_true, if_false, true_and, and_true, false_and, and_false, or_true, true_or, or_false, false_or, not_true_eq_false, not_false_eq_true, ite_not, z_b0, z_b1, z_b01, hSK0, hSK1, hSK2, hSK3, hSK4, hSK5, hSK6, hSK7, hSK8, hSK9, hSK10, hSK11, hSK12, hSK13, hSK14, hSK15, hSK16, hSK17, hSK18, hSK19, hSK20, hSK21, hSK22, hSK23, hSK24, hSK25, hSK26, hSK27, hSK28, hSK29, hSK30, hSK31, hSK32, hSK33, hSK34, hSK35, hSK36, hSK37, hSK38, hSK39, hSK40, hSK41, hSK42, hSK43, hSK44, hSK45, H, h]
  simp (disch := omega) only [if_pos, zup_zpr, zpr_at, zpr_zpr, zrw_at, zpr_ne]
theorem tz_swant (hB : SK R o) (hV : 0 ≤ m o 0 ∧ m o 0 ≤ 20) (u y : Int) : ev 95 0 [(2, o), (0, u), (0, y), (9, 0)] [] R m = some ((0, if zany (fun s => zwai m o s y && decide (m (o + 1) s = u)) (m o 0).toNat = true then 1 else 0), R, m) := by
  have A := fun s h1 h2 => tz_swaits (m := m) (s := s) hB hV.2 ⟨h1, h2⟩ y
  obtain ⟨hSK0, hSK1, hSK2, hSK3, hSK4, hSK5, hSK6, hSK7, hSK8, hSK9, hSK10, hSK11, hSK12, hSK13, hSK14, hSK15, hSK16, hSK17, hSK18, hSK19, hSK20, hSK21, hSK22, hSK23, hSK24, hSK25, hSK26, hSK27, hSK28, hSK29, hSK30, hSK31, hSK32, hSK33, hSK34, hSK35, hSK36, hSK37, hSK38, hSK39, hSK40, hSK41, hSK42, hSK43, hSK44, hSK45⟩ := hB
  simp only [s95_0, s95_1, s95_3, s95_4, s95_7, s95_10, s95_11, s95_12, s95_13, s95_16, s95_19, s95_20, s95_23, s95_24, s95_25, s95_26, s95_29, s95_30, s95_31, s95_34, s95_37, s95_38, zps_0, zps_1, zps_2, zps_3, zps_9, Option.bind_some, Option.bind_none, Int.reduceEq, Int.reduceNe, Int.reduceLT, Int.reduceLE, Int.reduceNeg, Int.reduceAdd, Int.reduceSub, Int.reduceMul, reduceIte, if_true, if_false, true_and, and_true, false_and, and_false, or_true, true_or, or_false, false_or, not_true_eq_false, not_false_eq_true, ite_not, z_b0, z_b1, z_b01, hSK0, hSK1, hSK2, hSK3, hSK4, hSK5, hSK6, hSK7, hSK8, hSK9, hSK10, hSK11, hSK12, hSK13, hSK14, hSK15, hSK16, hSK17, hSK18, hSK19, hSK20, hSK21, hSK22, hSK23, hSK24, hSK25, hSK26, hSK27, hSK28, hSK29, hSK30, hSK31, hSK32, hSK33, hSK34, hSK35, hSK36, hSK37, hSK38, hSK39, hSK40, hSK41, hSK42, hSK43, hSK44, hSK45]
  refine zloop (fun q => q = some ((0, if zany (fun s => zwai m o s y && decide (m (o + 1) s = u)) (m o 0).toNat = true then 1 else 0), R, m)) (fun k (_ : Unit) => ev 95 2 [(2, o), (0, u), (0, y), (0, k)] [] R m) (m o 0) (fun k _ => 0 ≤ k ∧ zany (fun s => zwai m o s y && decide (m (o + 1) s = u)) k.toNat = false) ?_ ?_ 0 () (by omega) ⟨by omega, rfl⟩
  · intro k _ hk ⟨h0, hI⟩ ih
    rw [s95_2]
    simp (disch := omega) only [s95_0, s95_1, s95_3, s95_4, s95_7, s95_10, s95_11, s95_12, s95_13, s95_16, s95_19, s95_20, s95_23, s95_24, s95_25, s95_26, s95_29, s95_30, s95_31, s95_34, s95_37, s95_38, zps_0, zps_1, zps_2, zps_3, zps_9, Option.bind_some, Option.bind_none, Int.reduceEq, Int.reduceNe, Int.reduceLT, Int.reduceLE, Int.reduceNeg, Int.reduceAdd, Int.reduceSub, Int.reduceMul, reduceIte, if_true, if_false, true_and, and_true, false_and, and_false, or_true, true_or, or_false, false_or, not_true_eq_false, not_false_eq_true, ite_not, z_b0, z_b1, z_b01, hSK0, hSK1, hSK2, hSK3, hSK4, hSK5, hSK6, hSK7, hSK8, hSK9, hSK10, hSK11, hSK12, hSK13, hSK14, hSK15, hSK16, hSK17, hSK18, hSK19, hSK20, hSK21, hSK22, hSK23, hSK24, hSK25, hSK26, hSK27, hSK28, hSK29, hSK30, hSK31, hSK32, hSK33, hSK34, hSK35, hSK36, hSK37, hSK38, hSK39, hSK40, hSK41, hSK42, hSK43, hSK44, hSK45, if_neg (show ¬ m o 0 ≤ k by omega), A, zw_i, if_pos (show 0 ≤ k ∧ k < 20 by omega)]
    have ih2 := fun h => ih () ⟨by omega, h⟩
    rw [zany_step _ h0, hI, Bool.false_or] at ih2
    by_cases hc : (zwai m o k y && decide (m (o + 1) k = u)) = true
    · rw [(zany_iff _ _).mpr ⟨k, h0, by omega, hc⟩]
      rw [Bool.and_eq_true, decide_eq_true_eq] at hc
      rw [if_pos hc.1, if_pos hc.2]
      rfl
    · rw [Bool.not_eq_true] at hc
      have := ih2 hc
      rw [Bool.and_eq_false_iff, decide_eq_false_iff_not] at hc
      rcases hc with hc | hc
      · rw [hc]; simpa using this
      · rw [if_neg hc]
        split <;> exact this
  · intro _ ⟨h0, hI⟩
    rw [s95_2]
    simp only [s95_0, s95_1, s95_3, s95_4, s95_7, s95_10, s95_11, s95_12, s95_13, s95_16, s95_19, s95_20, s95_23, s95_24, s95_25, s95_26, s95_29, s95_30, s95_31, s95_34, s95_37, s95_38, zps_0, zps_1, zps_2, zps_3, zps_9, Option.bind_some, Option.bind_none, Int.reduceEq, Int.reduceNe, Int.reduceLT, Int.reduceLE, Int.reduceNeg, Int.reduceAdd, Int.reduceSub, Int.reduceMul, reduceIte, if_true, if_false, true_and, and_true, false_and, and_false, or_true, true_or, or_false, false_or, not_true_eq_false, not_false_eq_true, ite_not, z_b0, z_b1, z_b01, hSK0, hSK1, hSK2, hSK3, hSK4, hSK5, hSK6, hSK7, hSK8, hSK9, hSK10, hSK11, hSK12, hSK13, hSK14, hSK15, hSK16, hSK17, hSK18, hSK19, hSK20, hSK21, hSK22, hSK23, hSK24, hSK25, hSK26, hSK27, hSK28, hSK29, hSK30, hSK31, hSK32, hSK33, hSK34, hSK35, hSK36, hSK37, hSK38, hSK39, hSK40, hSK41, hSK42, hSK43, hSK44, hSK45, if_pos (show m o 0 ≤ m o 0 by omega), hI]
    simp
theorem tz_ssee (hB : SK R o) {u p : Int} (hu : 1 ≤ u ∧ u ≤ 3) (hp : 0 ≤ p ∧ p < 64) (w h : Int) (c : Bool) : ev 96 0 [(2, o), (0, u), (0, p), (0, w), (0, h), (0, if c = true then 1 else 0)] [] R m = some ((9, 0), R, zpr (zpr (zpr m (o + 14) (zrw (m (o + 14)) (64 * u + p) w)) (o + 15) (zrw (m (o + 15)) p h)) (o + 13) (zrw (m (o + 13)) u (if c = true then zset (m (o + 13) u) p else zclr (m (o + 13) u) p))) := by
  obtain ⟨hSK0, hSK1, hSK2, hSK3, hSK4, hSK5, hSK6, hSK7, hSK8, hSK9, hSK10, hSK11, hSK12, hSK13, hSK14, hSK15, hSK16, hSK17, hSK18, hSK19, hSK20, hSK21, hSK22, hSK23, hSK24, hSK25, hSK26, hSK27, hSK28, hSK29, hSK30, hSK31, hSK32, hSK33, hSK34, hSK35, hSK36, hSK37, hSK38, hSK39, hSK40, hSK41, hSK42, hSK43, hSK44, hSK45⟩ := hB
  simp only [s96_0, s96_1, s96_2, s96_3, s96_6, s96_9, s96_10, s96_11, s96_13, s96_16, s96_19, s96_20, s96_21, s96_24, s96_25, s96_27, s96_28, s96_29, s96_30, s96_31, s96_32, s96_33, s96_36, s96_37, s96_39, s96_40, s96_41, s96_44, s96_45, s96_47, s96_50, s96_51, s96_54, s96_55, s96_56, s96_57, s96_60, s96_61, s96_64, s96_65, s96_68, s96_69, s96_70, s96_71, s96_74, s96_77, s96_78, s96_79, s96_80, zps_0, zps_1, zps_2, zps_3, zps_9, Option.bind_some, Option.bind_none, Int.reduceEq, Int.reduceNe, Int.reduceLT, Int.reduceLE, Int.reduceNeg, Int.reduceAdd, Int.reduceSub, Int.reduceMul, reduceIte, if_true, if_false, true_and, and_true, false_and, and_false, or_true, true_or, or_false, false_or, not_true_eq_false, not_false_eq_true, ite_not, z_b0, z_b1, z_b01, hSK0, hSK1, hSK2, hSK3, hSK4, hSK5, hSK6, hSK7, hSK8, hSK9, hSK10, hSK11, hSK12, hSK13, hSK14, hSK15, hSK16, hSK17, hSK18, hSK19, hSK20, hSK21, hSK22, hSK23, hSK24, hSK25, hSK26, hSK27, hSK28, hSK29, hSK30, hSK31, hSK32, hSK33, hSK34, hSK35, hSK36, hSK37, hSK38, hSK39, hSK40, hSK41, hSK42, hSK43, hSK44, hSK45, tz_within, hu, hp, tz_bit]
  rw [if_pos (by omega), zw_i (x := u * 64) (by omega) (by omega), zw_i (x := u * 64 + p) (by omega) (by omega), Int.mul_comm u 64]
  cases c
  · simp (disch := omega) only [if_pos, if_neg, zup_zpr, zpr_at, zpr_zpr, zrw_at, zpr_ne, Bool.false_eq_true, reduceIte, if_false]
    rfl
  · simp (disch := omega) only [if_pos, if_neg, zup_zpr, zpr_at, zpr_zpr, zrw_at, zpr_ne, reduceIte, if_true]
    rfl
theorem tz_soutbids (hB : SK R o) (hV : m o 0 ≤ 20) {s q : Int} (hs : 0 ≤ s ∧ s < m o 0) (hq : 0 ≤ q ∧ q < m o 0) : ev 102 0 [(2, o), (0, s), (0, q)] [] R m = some ((0, if m (o + 10) q < m (o + 10) s ∨ (m (o + 10) s = m (o + 10) q ∧ s < q) then 1 else 0), R, m) := by
  have H := fun x => tz_shas (R := R) (m := m) hB hV x
  obtain ⟨hSK0, hSK1, hSK2, hSK3, hSK4, hSK5, hSK6, hSK7, hSK8, hSK9, hSK10, hSK11, hSK12, hSK13, hSK14, hSK15, hSK16, hSK17, hSK18, hSK19, hSK20, hSK21, hSK22, hSK23, hSK24, hSK25, hSK26, hSK27, hSK28, hSK29, hSK30, hSK31, hSK32, hSK33, hSK34, hSK35, hSK36, hSK37, hSK38, hSK39, hSK40, hSK41, hSK42, hSK43, hSK44, hSK45⟩ := hB
  simp only [s102_0, s102_1, s102_2, s102_5, s102_8, s102_9, s102_10, s102_13, s102_16, s102_17, s102_18, s102_19, s102_22, s102_23, s102_24, s102_25, s102_28, s102_29, s102_30, s102_33, s102_34, s102_37, s102_38, s102_39, s102_40, s102_43, s102_44, s102_45, s102_48, s102_49, s102_50, s102_53, s102_54, s102_57, s102_58, zps_0, zps_1, zps_2, zps_3, zps_9, Option.bind_some, Option.bind_none, Int.reduceEq, Int.reduceNe, Int.reduceLT, Int.reduceLE, Int.reduceNeg, Int.reduceAdd, Int.reduceSub, Int.reduceMul, reduceIte, if_true, if_false, true_and, and_true, false_and, and_false, or_true, true_or, or_false, false_or, not_true_eq_false, not_false_eq_true, ite_not, z_b0, z_b1, z_b01, hSK0, hSK1, hSK2, hSK3, hSK4, hSK5, hSK6, hSK7, hSK8, hSK9, hSK10, hSK11, hSK12, hSK13, hSK14, hSK15, hSK16, hSK17, hSK18, hSK19, hSK20, hSK21, hSK22, hSK23, hSK24, hSK25, hSK26, hSK27, hSK28, hSK29, hSK30, hSK31, hSK32, hSK33, hSK34, hSK35, hSK36, hSK37, hSK38, hSK39, hSK40, hSK41, hSK42, hSK43, hSK44, hSK45, H, hs, hq]
  (repeat' split) <;> first | rfl | (exfalso; omega)
/-- what holds of numbers that are read in settling -/
def SVal (m : zM) (o : Int) : Prop := (0 ≤ m o 0 ∧ m o 0 ≤ 20) ∧ (∀ s, 0 ≤ s → s < m o 0 → (1 ≤ m (o + 1) s ∧ m (o + 1) s ≤ 3) ∧ (1 ≤ m (o + 2) s ∧ m (o + 2) s ≤ 999) ∧ (-9 ≤ m (o + 3) s ∧ m (o + 3) s ≤ 9))
def zval2 (m : zM) (o s p : Int) : Int := m (o + 14) (64 * m (o + 1) s + p) + m (o + 3) s * m (o + 15) p
theorem ztm {a b : Int} (ha : -9 ≤ a ∧ a ≤ 9) (hb : 0 ≤ b ∧ b ≤ 9) : -81 ≤ a * b ∧ a * b ≤ 81 := by
  rcases (show a = -9 ∨ a = -8 ∨ a = -7 ∨ a = -6 ∨ a = -5 ∨ a = -4 ∨ a = -3 ∨ a = -2 ∨ a = -1 ∨ a = 0 ∨ a = 1 ∨ a = 2 ∨ a = 3 ∨ a = 4 ∨ a = 5 ∨ a = 6 ∨ a = 7 ∨ a = 8 ∨ a = 9 by omega) with h | h | h | h | h | h | h | h | h | h | h | h | h | h | h | h | h | h | h <;> subst h <;> omega
theorem tz_svalue (hB : SK R o) (hV : SVal m o) {s p : Int} (hs : 0 ≤ s ∧ s < m o 0) (hp : 0 ≤ p ∧ p < 64) (hw : -1000000 ≤ m (o + 14) (64 * m (o + 1) s + p) ∧ m (o + 14) (64 * m (o + 1) s + p) ≤ 1000000) (hh : 0 ≤ m (o + 15) p ∧ m (o + 15) p ≤ 9) : ev 101 0 [(2, o), (0, s), (0, p)] [] R m = some ((0, zval2 m o s p), R, m) := by
  have h1 := hV.2 s hs.1 hs.2
  have h0 := hV.1
  have h2 := ztm h1.2.2 hh
  have H := tz_shas (R := R) (m := m) hB h0.2 s
  have hp2 : 0 ≤ p ∧ p ≤ 63 := by omega
  have hu := h1.1
  obtain ⟨hSK0, hSK1, hSK2, hSK3, hSK4, hSK5, hSK6, hSK7, hSK8, hSK9, hSK10, hSK11, hSK12, hSK13, hSK14, hSK15, hSK16, hSK17, hSK18, hSK19, hSK20, hSK21, hSK22, hSK23, hSK24, hSK25, hSK26, hSK27, hSK28, hSK29, hSK30, hSK31, hSK32, hSK33, hSK34, hSK35, hSK36, hSK37, hSK38, hSK39, hSK40, hSK41, hSK42, hSK43, hSK44, hSK45⟩ := hB
  simp only [s101_0, s101_1, s101_2, s101_5, s101_8, s101_9, s101_10, s101_12, s101_15, s101_18, s101_19, s101_22, s101_23, s101_24, s101_25, s101_26, s101_29, s101_32, s101_33, s101_34, s101_35, s101_38, s101_39, s101_42, s101_43, s101_44, s101_46, s101_47, s101_48, s101_49, s101_50, s101_51, s101_54, s101_55, s101_56, s101_57, s101_60, s101_61, s101_62, s101_63, s101_64, zps_0, zps_1, zps_2, zps_3, zps_9, Option.bind_some, Option.bind_none, Int.reduceEq, Int.reduceNe, Int.reduceLT, Int.reduceLE, Int.reduceNeg, Int.reduceAdd, Int.reduceSub, Int.reduceMul, reduceIte, if_true, if_false, true_and, and_true, false_and, and_false, or_true, true_or, or_false, false_or, not_true_eq_false, not_false_eq_true, ite_not, z_b0, z_b1, z_b01, hSK0, hSK1, hSK2, hSK3, hSK4, hSK5, hSK6, hSK7, hSK8, hSK9, hSK10, hSK11, hSK12, hSK13, hSK14, hSK15, hSK16, hSK17, hSK18, hSK19, hSK20, hSK21, hSK22, hSK23, hSK24, hSK25, hSK26, hSK27, hSK28, hSK29, hSK30, hSK31, hSK32, hSK33, hSK34, hSK35, hSK36, hSK37, hSK38, hSK39, hSK40, hSK41, hSK42, hSK43, hSK44, hSK45, H, hs, tz_within, hp2, hu]
  rw [if_pos (by omega), if_pos (by omega), zw_i (x := m (o + 1) s * 64) (by omega) (by omega), zw_i (x := m (o + 1) s * 64 + p) (by omega) (by omega), if_pos (by omega), if_pos (by omega), if_pos (by omega), zw_i (x := m (o + 3) s * m (o + 15) p) (by omega) (by omega), Int.mul_comm (m (o + 1) s) 64, zw_i (by omega) (by omega)]
  rfl
end SEEKERS
