/-! the class settles trips: all begun, crowds laid -/
section SETTLE3
variable {R m w x y z : zM} {T : zTS} {t : Int} {n : Nat} {c : Int → Int} {D : Int → Int}
theorem tz_pbegin (hPK : PK R) (hWK : WK R) (hB : BK R 3) (hW : WRs m w) (hP : TPs m w n) (hL : m 70 7 = m 3 3 → LDok m) : ∃ x : zM, ev 135 0 [(2, 79), (9, 0)] [] R m = some ((9, 0), R, x) ∧ QS m x ∧ (x 70 7 = x 3 3 → LDok x) ∧ (0 < n → LDok x) ∧ CWd x (tCw (tIn w n) n (-1)) ∧ x 79 = m 79 ∧ ∀ u : Int, 0 ≤ u → u < n → TBg x w (tIn w n) u := by
  have hV := hW.1.2.1
  obtain ⟨x0, hx0⟩ : ∃ x0, zpr m 75 (zfll (m 75) 256 0) = x0 := ⟨_, rfl⟩
  have q0 : QS m x0 := by rw [← hx0]; exact QS_zpr m _ (by omega)
  have FC := tz_forgetCrowd (m := m) hWK
  rw [hx0] at FC
  have L0 : ev 135 0 [(2, 79), (9, 0)] [] R m = ev 135 9 [(2, 79), (0, 0)] [] R x0 := by
    simp only [s135_0, s135_1, s135_4, s135_7, s135_8, s135_10, s135_11, s135_14, s135_17, s135_18, s135_20, s135_23, s135_24, s135_27, s135_28, s135_31, s135_32, s135_33, s135_34, s135_37, s135_38, s135_41, s135_42, s135_43, s135_46, s135_47, s135_50, s135_51, s135_52, s135_55, s135_58, s135_59, s135_62, s135_63, s135_64, s135_65, s135_68, s135_69, s135_70, s135_73, s135_74, s135_77, s135_78, s135_79, s135_82, s135_83, s135_84, s135_87, s135_88, s135_91, s135_92, s135_93, s135_96, s135_97, s135_98, s135_101, s135_104, s135_107, s135_108, s135_110, s135_111, s135_114, s135_117, s135_118, s135_119, s135_120, s135_123, s135_126, s135_129, zps_0, zps_1, zps_2, zps_3, zps_9, Option.bind_some, Option.bind_none, Int.reduceEq, Int.reduceNe, Int.reduceLT, Int.reduceLE, Int.reduceNeg, Int.reduceAdd, Int.reduceSub, Int.reduceMul, reduceIte, if_true, if_false, true_and, and_true, false_and, and_false, or_true, true_or, or_false, false_or, not_true_eq_false, not_false_eq_true, ite_not, z_b0, z_b1, z_b01, rPK0 hPK, rPK1 hPK, rPK2 hPK, rPK3 hPK, rPK4 hPK, rPK5 hPK, rPK6 hPK, rPK7 hPK, kPK0, kPK1, kPK2, kPK3, kPK4, kPK5, kPK6, kPK7, kPK8, kPK9, kPK10, kPK11, kPK12, kPK13, kPK14, rWK0 hWK, rWK1 hWK, rWK2 hWK, rWK3 hWK, rWK4 hWK, rWK5 hWK, rWK6 hWK, rWK7 hWK, rWK8 hWK, kWK0, kWK1, kWK2, kWK3, kWK4, kWK5, kWK6, kWK7, kWK8, kWK9, kWK10, kWK11, kWK12, kWK13, kWK14, kWK15, kWK16, FC]
  have C0 : CWd x0 (fun _ => 0) := by
    intro p d p0 p1 d0 d1
    rw [← hx0, zpr_at, zfll_at (by omega)]
    split <;> rfl
  have l0 : x0 70 7 = x0 3 3 → LDok x0 := by
    intro e
    have e2 : m 70 7 = m 3 3 := by rw [← hx0, zpr_ne (by decide), zpr_ne (by decide)] at e; exact e
    rw [← hx0]
    exact LDok_75 _ (hL e2)
  have key : ∀ k : Nat, k ≤ n → ∃ x' : zM, ev 135 9 [(2, 79), (0, 0)] [] R x0 = ev 135 9 [(2, 79), (0, (k : Int))] [] R x' ∧ QS m x' ∧ (x' 70 7 = x' 3 3 → LDok x') ∧ (0 < k → LDok x') ∧ CWd x' (fun _ => 0) ∧ x' 79 = m 79 ∧ ∀ u : Int, 0 ≤ u → u < (k : Int) → TBg x' w (tIn w k) u := by
    intro k
    induction k with
    | zero => intro _; exact ⟨x0, rfl, q0, l0, fun h => by omega, C0, by rw [← hx0, zpr_ne (by decide)], fun u u0 u1 => by omega⟩
    | succ k ih =>
      intro hk
      obtain ⟨x', e1, b1, b2, b3, b4, b5, b6⟩ := ih (by omega)
      obtain ⟨x2, e2, d1, d2, d3, d4, d5, d6⟩ := tz_begin1 (R := R) hPK hWK hB hW hP b1 b2 b4 b5 (k := k) (by omega) b6
      exact ⟨x2, e1.trans e2, d1, fun _ => d2, fun _ => d2, d4, d5, d6⟩
  obtain ⟨x1, e1, q1, l1, l1n, C1, h79, hT⟩ := key n (Nat.le_refl _)
  have t79 : x1 79 1 = n := by rw [h79, hP.1]
  have L1 : ev 135 9 [(2, 79), (0, (n : Int))] [] R x1 = ev 135 109 [(2, 79), (0, 0)] [] R (zpr x1 75 (x1 75)) := by
    rw [zpr_self, s135_9]
    simp only [s135_0, s135_1, s135_4, s135_7, s135_8, s135_10, s135_11, s135_14, s135_17, s135_18, s135_20, s135_23, s135_24, s135_27, s135_28, s135_31, s135_32, s135_33, s135_34, s135_37, s135_38, s135_41, s135_42, s135_43, s135_46, s135_47, s135_50, s135_51, s135_52, s135_55, s135_58, s135_59, s135_62, s135_63, s135_64, s135_65, s135_68, s135_69, s135_70, s135_73, s135_74, s135_77, s135_78, s135_79, s135_82, s135_83, s135_84, s135_87, s135_88, s135_91, s135_92, s135_93, s135_96, s135_97, s135_98, s135_101, s135_104, s135_107, s135_108, s135_110, s135_111, s135_114, s135_117, s135_118, s135_119, s135_120, s135_123, s135_126, s135_129, zps_0, zps_1, zps_2, zps_3, zps_9, Option.bind_some, Option.bind_none, Int.reduceEq, Int.reduceNe, Int.reduceLT, Int.reduceLE, Int.reduceNeg, Int.reduceAdd, Int.reduceSub, Int.reduceMul, reduceIte, if_true, if_false, true_and, and_true, false_and, and_false, or_true, true_or, or_false, false_or, not_true_eq_false, not_false_eq_true, ite_not, z_b0, z_b1, z_b01, rPK0 hPK, rPK1 hPK, rPK2 hPK, rPK3 hPK, rPK4 hPK, rPK5 hPK, rPK6 hPK, rPK7 hPK, kPK0, kPK1, kPK2, kPK3, kPK4, kPK5, kPK6, kPK7, kPK8, kPK9, kPK10, kPK11, kPK12, kPK13, kPK14, t79, Int.le_refl, if_true]
  have key2 : ∀ k : Nat, k ≤ n → ∃ f : Int → Int, ev 135 109 [(2, 79), (0, 0)] [] R (zpr x1 75 (x1 75)) = ev 135 109 [(2, 79), (0, (k : Int))] [] R (zpr x1 75 f) ∧ CWd (zpr x1 75 f) (tCw (tIn w n) k (-1)) := by
    intro k
    induction k with
    | zero =>
      intro _
      refine ⟨x1 75, rfl, ?_⟩
      rw [zpr_self]
      have : tCw (tIn w n) 0 (-1) = fun _ => 0 := by funext e; unfold tCw; rfl
      rw [this]; exact C1
    | succ k ih =>
      intro hk
      obtain ⟨f, e2, hC⟩ := ih (by omega)
      have tt : 0 ≤ (k : Int) ∧ (k : Int) < zpr x1 75 f 79 1 ∧ (k : Int) < 8 := by rw [zpr_ne (by decide), t79]; have := hP.2.1; omega
      have ok := tIn_ok hV hP.2.2.1 n (Nat.le_refl _)
      have tr : TRw (zpr x1 75 f) (tIn w n) k := TRw_c (zpr_ne (by decide)) (zpr_ne (by decide)) (hT k (by omega) (by omega)).1
      have cb : ∀ e, 0 ≤ e → e < 128 → -1000 ≤ tCw (tIn w n) k (-1) e ∧ tCw (tIn w n) k (-1) e ≤ 1000 := fun e _ _ => by
        have := tCw_b (n := k) (by have := hP.2.1; omega) (fun t t0 t1 => ok t t0 (by omega)) (-1) e
        omega
      obtain ⟨g, e3, hC2⟩ := tz_taddCrowd (R := R) hPK hWK (LDok_75 f (l1n (by omega))) (WRs_75 f (QS_WRs q1 hW)) hC cb tt tr (ok k (by omega) (by omega)) (Or.inl rfl : (1 : Int) = 1 ∨ (1 : Int) = -1)
      rw [zpr_zpr] at e3 hC2
      have c1 : (k : Int) < n := by omega
      have c2 : ¬ (n : Int) ≤ k := by omega
      have z1 : zw ((k : Int) + 1) = ((k + 1 : Nat) : Int) := by rw [zw_i (by omega) (by have := hP.2.1; omega)]; rfl
      have t79' : zpr x1 75 f 79 1 = n := by rw [zpr_ne (by decide), t79]
      refine ⟨g, ?_, ?_⟩
      · rw [e2, s135_109]
        simp only [s135_0, s135_1, s135_4, s135_7, s135_8, s135_10, s135_11, s135_14, s135_17, s135_18, s135_20, s135_23, s135_24, s135_27, s135_28, s135_31, s135_32, s135_33, s135_34, s135_37, s135_38, s135_41, s135_42, s135_43, s135_46, s135_47, s135_50, s135_51, s135_52, s135_55, s135_58, s135_59, s135_62, s135_63, s135_64, s135_65, s135_68, s135_69, s135_70, s135_73, s135_74, s135_77, s135_78, s135_79, s135_82, s135_83, s135_84, s135_87, s135_88, s135_91, s135_92, s135_93, s135_96, s135_97, s135_98, s135_101, s135_104, s135_107, s135_108, s135_110, s135_111, s135_114, s135_117, s135_118, s135_119, s135_120, s135_123, s135_126, s135_129, zps_0, zps_1, zps_2, zps_3, zps_9, Option.bind_some, Option.bind_none, Int.reduceEq, Int.reduceNe, Int.reduceLT, Int.reduceLE, Int.reduceNeg, Int.reduceAdd, Int.reduceSub, Int.reduceMul, reduceIte, if_true, if_false, true_and, and_true, false_and, and_false, or_true, true_or, or_false, false_or, not_true_eq_false, not_false_eq_true, ite_not, z_b0, z_b1, z_b01, rPK0 hPK, rPK1 hPK, rPK2 hPK, rPK3 hPK, rPK4 hPK, rPK5 hPK, rPK6 hPK, rPK7 hPK, kPK0, kPK1, kPK2, kPK3, kPK4, kPK5, kPK6, kPK7, kPK8, kPK9, kPK10, kPK11, kPK12, kPK13, kPK14, t79', c1, c2, e3, z1, if_true, if_false]
      · have e : tCw (tIn w n) (k + 1) (-1) = fun e => tCw (tIn w n) k (-1) e + 1 * tCw1 (tIn w n) k e := by funext e; rw [tCw_s]; omega
        rw [e]; exact hC2
  obtain ⟨f, e2, hC⟩ := key2 n (Nat.le_refl _)
  have t79' : zpr x1 75 f 79 1 = n := by rw [zpr_ne (by decide), t79]
  have L2 : ev 135 109 [(2, 79), (0, (n : Int))] [] R (zpr x1 75 f) = some ((9, 0), R, zpr x1 75 f) := by
    rw [s135_109]
    simp only [s135_0, s135_1, s135_4, s135_7, s135_8, s135_10, s135_11, s135_14, s135_17, s135_18, s135_20, s135_23, s135_24, s135_27, s135_28, s135_31, s135_32, s135_33, s135_34, s135_37, s135_38, s135_41, s135_42, s135_43, s135_46, s135_47, s135_50, s135_51, s135_52, s135_55, s135_58, s135_59, s135_62, s135_63, s135_64, s135_65, s135_68, s135_69, s135_70, s135_73, s135_74, s135_77, s135_78, s135_79, s135_82, s135_83, s135_84, s135_87, s135_88, s135_91, s135_92, s135_93, s135_96, s135_97, s135_98, s135_101, s135_104, s135_107, s135_108, s135_110, s135_111, s135_114, s135_117, s135_118, s135_119, s135_120, s135_123, s135_126, s135_129, zps_0, zps_1, zps_2, zps_3, zps_9, Option.bind_some, Option.bind_none, Int.reduceEq, Int.reduceNe, Int.reduceLT, Int.reduceLE, Int.reduceNeg, Int.reduceAdd, Int.reduceSub, Int.reduceMul, reduceIte, if_true, if_false, true_and, and_true, false_and, and_false, or_true, true_or, or_false, false_or, not_true_eq_false, not_false_eq_true, ite_not, z_b0, z_b1, z_b01, rPK0 hPK, rPK1 hPK, rPK2 hPK, rPK3 hPK, rPK4 hPK, rPK5 hPK, rPK6 hPK, rPK7 hPK, kPK0, kPK1, kPK2, kPK3, kPK4, kPK5, kPK6, kPK7, kPK8, kPK9, kPK10, kPK11, kPK12, kPK13, kPK14, t79', Int.le_refl, if_true]
  refine ⟨zpr x1 75 f, by rw [L0, e1, L1, e2, L2], QS_tr q1 (QS_zpr _ _ (by omega)), fun e => LDok_75 f (l1 (by rw [zpr_ne (by decide), zpr_ne (by decide)] at e; exact e)), fun h => LDok_75 f (l1n h), hC, by rw [zpr_ne (by decide), h79], fun u u0 u1 => ?_⟩
  obtain ⟨a, b, d⟩ := hT u u0 u1
  unfold TBg
  rw [zpr_ne (by decide), zpr_ne (by decide)]
  exact ⟨TRw_c (zpr_ne (by decide)) (zpr_ne (by decide)) a, b, d⟩
end SETTLE3
