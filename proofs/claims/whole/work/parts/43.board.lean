/-! the board's methods -/
/-- memory with a row put -/
def zpr (m : zM) (a : Int) (f : Int → Int) : zM := fun b => if b = a then f else m b
theorem zpr_at (m : zM) (a : Int) (f : Int → Int) : zpr m a f a = f := by unfold zpr; simp
theorem zpr_ne {m : zM} {a b : Int} {f : Int → Int} (h : b ≠ a) : zpr m a f b = m b := by unfold zpr; simp [h]
theorem zup_zpr (m : zM) (a k v : Int) : zup m a k v = zpr m a (zrw (m a) k v) := by
  funext b q
  unfold zup zpr zrw
  by_cases h : b = a
  · subst h; simp
  · simp [h]
theorem zpr_zpr (m : zM) (a : Int) (f g : Int → Int) : zpr (zpr m a f) a g = zpr m a g := by
  funext b
  unfold zpr
  by_cases h : b = a <;> simp [h]
theorem t_within (v l h : Int) (R m : zM) : ev 179 0 [(0, v), (0, l), (0, h)] [] R m = some ((0, if l ≤ v ∧ v ≤ h then 1 else 0), R, m) := by
  simp only [s179_0, s179_1, s179_2, s179_5, s179_6, s179_7, s179_10, s179_11, s179_14, s179_15, zps_0, zps_1, zps_2, zps_3, zps_9, Option.bind_some, Option.bind_none, Int.reduceEq, Int.reduceNe, Int.reduceLT, Int.reduceLE, Int.reduceNeg, Int.reduceAdd, Int.reduceSub, Int.reduceMul, reduceIte, if_true, if_false, true_and, and_true, false_and, and_false, or_true, true_or, or_false, false_or, not_true_eq_false, not_false_eq_true, ite_not, z_b0, z_b1, z_b01]
  (repeat' split) <;> first | rfl | (exfalso; omega)
theorem t_bit (p : Int) (R m : zM) : ev 180 0 [(0, p)] [] R m = some ((1, zbit p), R, m) := by
  simp only [s180_0, s180_1, s180_2, s180_3, zps_0, zps_1, zps_2, zps_3, zps_9, Option.bind_some, Option.bind_none, Int.reduceEq, Int.reduceNe, Int.reduceLT, Int.reduceLE, Int.reduceNeg, Int.reduceAdd, Int.reduceSub, Int.reduceMul, reduceIte, if_true, if_false, true_and, and_true, false_and, and_false, or_true, true_or, or_false, false_or, not_true_eq_false, not_false_eq_true, ite_not, z_b0, z_b1, z_b01]
  rfl
section BOARD
variable {o : Int} {R m : zM}
theorem t_has (hB : BK R o) (p : Int) : ev 18 0 [(2, o), (0, p)] [] R m = some ((0, if 0 ≤ p ∧ p < m o 2 then 1 else 0), R, m) := by
  obtain ⟨hBK0, hBK1, hBK2, hBK3, hBK4, hBK5, hBK6, hBK7, hBK8, hBK9, hBK10, hBK11, hBK12, hBK13, hBK14, hBK15⟩ := hB
  simp only [s18_0, s18_1, s18_4, s18_5, s18_6, s18_9, s18_12, s18_13, s18_16, s18_17, zps_0, zps_1, zps_2, zps_3, zps_9, Option.bind_some, Option.bind_none, Int.reduceEq, Int.reduceNe, Int.reduceLT, Int.reduceLE, Int.reduceNeg, Int.reduceAdd, Int.reduceSub, Int.reduceMul, reduceIte, if_true, if_false, true_and, and_true, false_and, and_false, or_true, true_or, or_false, false_or, not_true_eq_false, not_false_eq_true, ite_not, z_b0, z_b1, z_b01, hBK0, hBK1, hBK2, hBK3, hBK4, hBK5, hBK6, hBK7, hBK8, hBK9, hBK10, hBK11, hBK12, hBK13, hBK14, hBK15]
  (repeat' split) <;> first | rfl | (exfalso; omega)
def zthg (f : Int → Int) (p b a : Int) : Int → Int :=
  let f1 := if 0 ≤ b ∧ b < 5 then zrw f b (zclr (f b) p) else f
  if 0 ≤ a ∧ a < 5 then zrw f1 a (zset (f1 a) p) else f1
theorem t_becomeThing (hB : BK R o) (p b a : Int) : ev 22 0 [(2, o), (0, p), (0, b), (0, a)] [] R m = some ((9, 0), R, zpr m (o + 4) (zthg (m (o + 4)) p b a)) := by
  obtain ⟨hBK0, hBK1, hBK2, hBK3, hBK4, hBK5, hBK6, hBK7, hBK8, hBK9, hBK10, hBK11, hBK12, hBK13, hBK14, hBK15⟩ := hB
  simp only [s22_0, s22_1, s22_4, s22_5, s22_6, s22_9, s22_10, s22_13, s22_14, s22_15, s22_16, s22_17, s22_20, s22_23, s22_24, s22_25, s22_26, s22_27, s22_30, s22_31, s22_32, s22_35, s22_36, s22_39, s22_40, s22_41, s22_42, s22_43, s22_46, s22_47, s22_48, zps_0, zps_1, zps_2, zps_3, zps_9, Option.bind_some, Option.bind_none, Int.reduceEq, Int.reduceNe, Int.reduceLT, Int.reduceLE, Int.reduceNeg, Int.reduceAdd, Int.reduceSub, Int.reduceMul, reduceIte, if_true, if_false, true_and, and_true, false_and, and_false, or_true, true_or, or_false, false_or, not_true_eq_false, not_false_eq_true, ite_not, z_b0, z_b1, z_b01, hBK0, hBK1, hBK2, hBK3, hBK4, hBK5, hBK6, hBK7, hBK8, hBK9, hBK10, hBK11, hBK12, hBK13, hBK14, hBK15, t_bit]
  unfold zthg
  done
theorem t_useOf (hB : BK R o) (p : Int) (h : 0 ≤ p ∧ p < m o 2) (h64 : m o 2 ≤ 64) : ev 19 0 [(2, o), (0, p)] [] R m = some ((0, m (o + 3) p), R, m) := by
  obtain ⟨hBK0, hBK1, hBK2, hBK3, hBK4, hBK5, hBK6, hBK7, hBK8, hBK9, hBK10, hBK11, hBK12, hBK13, hBK14, hBK15⟩ := hB
  simp only [s19_0, s19_1, s19_4, s19_5, s19_6, s19_9, s19_12, s19_13, s19_16, s19_17, s19_18, s19_21, s19_22, zps_0, zps_1, zps_2, zps_3, zps_9, Option.bind_some, Option.bind_none, Int.reduceEq, Int.reduceNe, Int.reduceLT, Int.reduceLE, Int.reduceNeg, Int.reduceAdd, Int.reduceSub, Int.reduceMul, reduceIte, if_true, if_false, true_and, and_true, false_and, and_false, or_true, true_or, or_false, false_or, not_true_eq_false, not_false_eq_true, ite_not, z_b0, z_b1, z_b01, hBK0, hBK1, hBK2, hBK3, hBK4, hBK5, hBK6, hBK7, hBK8, hBK9, hBK10, hBK11, hBK12, hBK13, hBK14, hBK15]
  rw [if_neg (by omega), if_neg (by omega), if_pos (by omega)]
end BOARD
