/-! the class traces: small things -/
def CTr (m w : zM) (D : Int → Int) : Prop := LDok m ∧ WRs m w ∧ CRm m w ∧ wCr w ∧ ∀ s, 0 ≤ s → s < 88 → m 76 s = D s ∧ 0 ≤ D s ∧ D s ≤ 1000000
def so (m w : zM) (D : Int → Int) (p d : Int) : Bool := decide (0 ≤ m 73 (4 * p + d)) && gC w D p (m 73 (4 * p + d))
def ro (m : zM) (D : Int → Int) (x a k : Int) : Bool := decide (0 ≤ cNs m a k) && (ybt x a && decide (D (64 + a) = D (64 + (a + k)) + 1))
/-- where one may be, as the class has it -/
def AB (H : Int → Bool) (p f x : Int) : Prop := (f = if H p = true then 1 else 0) ∧ zi32 x ∧ (∀ a, 0 ≤ a → a < 24 → ybt x a = H (64 + a)) ∧ ∀ a, 24 ≤ a → a < 32 → ybt x a = false
section TRACE1
variable {R m w : zM} {D : Int → Int} {H : Int → Bool} {p f x : Int}
theorem zfar_s (w p q : Int) : zfar w p q = zfar w q p := by
  unfold zfar
  rw [zab_s (p % w), zab_s (p / w)]
theorem wTk_s {s t : Int} (hs : s < 64) (ht : t < 64) : wTk w s t = wTk w t s := by
  unfold wTk
  rw [if_pos (show s < 64 ∧ t < 64 from ⟨hs, ht⟩), if_pos (show t < 64 ∧ s < 64 from ⟨ht, hs⟩), zfar_s (w 100 0) s t]
  by_cases c : zfar (w 100 0) t s = 1
  · rw [if_pos c, if_pos c, zab_s]
    have ne : s ≠ t := by intro e; rw [e] at c; unfold zfar zab at c; simp at c
    rw [wEd_s ne]
    congr 2
    by_cases a : w 101 s = 2 <;> by_cases b : w 101 t = 2 <;> simp [a, b]
  · rw [if_neg c, if_neg c]
theorem cBb (hL : LDok m) (hW : WRs m w) (hp : 0 ≤ p ∧ p < 64) {d : Int} (hd : 0 ≤ d ∧ d < 4) : 0 ≤ m 74 (4 * p + d) ∧ m 74 (4 * p + d) ≤ 1000000 := by
  obtain ⟨l1, l2⟩ := hL p d hp.1 hp.2 hd.1 hd.2
  by_cases c : 0 ≤ m 73 (4 * p + d)
  · obtain ⟨q1, q2, q3, q4, q5⟩ := cSt_e hL hW hp hd c
    have hV := hW.1.2.1
    have s1 := (wSt_lo ⟨c, q1⟩).1 q2
    have p1 := (wSt_lo hp).1 q3
    have h1 := (hV.2.2 _ c s1.1).2.1
    have h2 := (hV.2.2 p hp.1 p1.1).2.1
    rw [q5]
    unfold zab
    (repeat' split) <;> omega
  · by_cases g : cGo m p d = true
    · rw [if_pos g] at l1
      have := ((cGo_i m p d).1 g).1
      omega
    · rw [if_neg g] at l2
      rw [l2]; omega
theorem tz_isAboard (hWK : WK R) {a : Int} (ha : 0 ≤ a ∧ a < 32) : ev 167 0 [(2, 70), (0, a)] [] R m = some ((0, if ybt (m 70 14) a = true then 1 else 0), R, m) := by
  have A := y_ask (x := m 70 14) ha
  by_cases c : ybt (m 70 14) a = true
  · rw [if_pos c] at A
    simp only [s167_0, s167_1, s167_4, s167_5, s167_6, s167_7, s167_8, s167_9, s167_12, s167_13, s167_16, s167_17, zps_0, zps_1, zps_2, zps_3, zps_9, Option.bind_some, Option.bind_none, Int.reduceEq, Int.reduceNe, Int.reduceLT, Int.reduceLE, Int.reduceNeg, Int.reduceAdd, Int.reduceSub, Int.reduceMul, reduceIte, if_true, if_false, true_and, and_true, false_and, and_false, or_true, true_or, or_false, false_or, not_true_eq_false, not_false_eq_true, ite_not, z_b0, z_b1, z_b01, rWK0 hWK, rWK1 hWK, rWK2 hWK, rWK3 hWK, rWK4 hWK, rWK5 hWK, rWK6 hWK, rWK7 hWK, rWK8 hWK, kWK0, kWK1, kWK2, kWK3, kWK4, kWK5, kWK6, kWK7, kWK8, kWK9, kWK10, kWK11, kWK12, kWK13, kWK14, kWK15, kWK16, A, c, if_true, if_false]
  · rw [if_neg c] at A
    simp only [s167_0, s167_1, s167_4, s167_5, s167_6, s167_7, s167_8, s167_9, s167_12, s167_13, s167_16, s167_17, zps_0, zps_1, zps_2, zps_3, zps_9, Option.bind_some, Option.bind_none, Int.reduceEq, Int.reduceNe, Int.reduceLT, Int.reduceLE, Int.reduceNeg, Int.reduceAdd, Int.reduceSub, Int.reduceMul, reduceIte, if_true, if_false, true_and, and_true, false_and, and_false, or_true, true_or, or_false, false_or, not_true_eq_false, not_false_eq_true, ite_not, z_b0, z_b1, z_b01, rWK0 hWK, rWK1 hWK, rWK2 hWK, rWK3 hWK, rWK4 hWK, rWK5 hWK, rWK6 hWK, rWK7 hWK, rWK8 hWK, kWK0, kWK1, kWK2, kWK3, kWK4, kWK5, kWK6, kWK7, kWK8, kWK9, kWK10, kWK11, kWK12, kWK13, kWK14, kWK15, kWK16, A, c, if_true, if_false, Bool.false_eq_true]
theorem tz_isStepOn (hWK : WK R) (hT : CTr m w D) (hp : 0 ≤ p ∧ p < 64) {d : Int} (hd : 0 ≤ d ∧ d < 4) : ev 169 0 [(2, 70), (0, p), (0, d), (9, 0)] [] R m = some ((0, if so m w D p d = true then 1 else 0), R, m) := by
  obtain ⟨hL, hW, hC, hCr, hD⟩ := hT
  have SE := tz_stepEnd (m := m) hWK hp hd
  have ST := tz_stepTime (m := m) hWK hp hd (cBb hL hW hp hd) (hC.2.2 (4 * p + d) (by omega) (by omega))
  have T1 := tz_timeFrom (m := m) hWK p
  rw [if_pos (by omega), (hD p hp.1 (by omega)).1] at T1
  unfold so
  by_cases c : 0 ≤ m 73 (4 * p + d)
  · have c' : ¬ m 73 (4 * p + d) < 0 := by omega
    obtain ⟨q1, q2, q3, q4, q5⟩ := cSt_e hL hW hp hd c
    rw [cSt_t hL hW hC hp hd c] at ST
    have tb := wTk_b hW.1.2.1 hCr q2 q3
    have ts := wTk_s (w := w) (s := p) (t := m 73 (4 * p + d)) hp.2 q1
    have fin : wTk w (m 73 (4 * p + d)) p < 1000000 := by
      by_cases z : wTk w (m 73 (4 * p + d)) p < 1000000
      · exact z
      · exfalso
        have tv : wTk w (m 73 (4 * p + d)) p = (if w 101 (m 73 (4 * p + d)) = 2 ∧ w 101 p = 2 then 1 else 3) + zab (w 102 (m 73 (4 * p + d)) - w 102 p) + 2 * w 135 (wEd (m 73 (4 * p + d)) p) := by
          unfold wTk
          rw [if_pos ⟨q1, hp.2⟩, if_pos q4]
        have hV := hW.1.2.1
        have s1 := (wSt_lo ⟨c, q1⟩).1 q2
        have p1 := (wSt_lo hp).1 q3
        have h1 := (hV.2.2 _ c s1.1).2.1
        have h2 := (hV.2.2 p hp.1 p1.1).2.1
        have ne : m 73 (4 * p + d) ≠ p := by intro e; rw [e] at q4; unfold zfar zab at q4; simp at q4
        have eb := wEd_b ⟨c, q1⟩ hp ne
        have cr := hCr _ eb.1 eb.2
        have : zab (w 102 (m 73 (4 * p + d)) - w 102 p) ≤ 100 := by unfold zab; split <;> omega
        split at tv <;> omega
    have T2 := tz_timeFrom (m := m) hWK (m 73 (4 * p + d))
    rw [if_pos (by omega), (hD _ c (by omega)).1] at T2
    have b1 := hD p hp.1 (by omega)
    have b2 := hD _ c (by omega)
    have gi := gC_iff (w := w) (D := D) p (m 73 (4 * p + d))
    rw [decide_eq_true c, Bool.true_and]
    generalize m 73 (4 * p + d) = q at *
    have ne : p ≠ q := by intro e; rw [← e] at q4; unfold zfar zab at q4; simp at q4
    rw [ts] at gi
    have z : zw (D q + wTk w q p) = D q + wTk w q p := zw_i (by omega) (by omega)
    by_cases e : D p = D q + wTk w q p
    · rw [if_pos (gi.2 ⟨⟨fun _ => q1, fun _ => hp.2⟩, ne, q2, fin, by omega⟩)]
      simp only [s169_0, s169_1, s169_2, s169_3, s169_6, s169_7, s169_8, s169_11, s169_12, s169_13, s169_16, s169_17, s169_18, s169_21, s169_22, s169_23, s169_24, s169_27, s169_28, s169_31, s169_32, s169_35, s169_36, zps_0, zps_1, zps_2, zps_3, zps_9, Option.bind_some, Option.bind_none, Int.reduceEq, Int.reduceNe, Int.reduceLT, Int.reduceLE, Int.reduceNeg, Int.reduceAdd, Int.reduceSub, Int.reduceMul, reduceIte, if_true, if_false, true_and, and_true, false_and, and_false, or_true, true_or, or_false, false_or, not_true_eq_false, not_false_eq_true, ite_not, z_b0, z_b1, z_b01, rWK0 hWK, rWK1 hWK, rWK2 hWK, rWK3 hWK, rWK4 hWK, rWK5 hWK, rWK6 hWK, rWK7 hWK, rWK8 hWK, kWK0, kWK1, kWK2, kWK3, kWK4, kWK5, kWK6, kWK7, kWK8, kWK9, kWK10, kWK11, kWK12, kWK13, kWK14, kWK15, kWK16, SE, c, c', T1, T2, ST, z, e, if_true, if_false]
    · rw [if_neg (show ¬ gC w D p q = true from fun h => e (by have := (gi.1 h).2.2.2.2; omega))]
      simp only [s169_0, s169_1, s169_2, s169_3, s169_6, s169_7, s169_8, s169_11, s169_12, s169_13, s169_16, s169_17, s169_18, s169_21, s169_22, s169_23, s169_24, s169_27, s169_28, s169_31, s169_32, s169_35, s169_36, zps_0, zps_1, zps_2, zps_3, zps_9, Option.bind_some, Option.bind_none, Int.reduceEq, Int.reduceNe, Int.reduceLT, Int.reduceLE, Int.reduceNeg, Int.reduceAdd, Int.reduceSub, Int.reduceMul, reduceIte, if_true, if_false, true_and, and_true, false_and, and_false, or_true, true_or, or_false, false_or, not_true_eq_false, not_false_eq_true, ite_not, z_b0, z_b1, z_b01, rWK0 hWK, rWK1 hWK, rWK2 hWK, rWK3 hWK, rWK4 hWK, rWK5 hWK, rWK6 hWK, rWK7 hWK, rWK8 hWK, kWK0, kWK1, kWK2, kWK3, kWK4, kWK5, kWK6, kWK7, kWK8, kWK9, kWK10, kWK11, kWK12, kWK13, kWK14, kWK15, kWK16, SE, c, c', T1, T2, ST, z, e, if_true, if_false]
  · have c' : m 73 (4 * p + d) < 0 := by omega
    rw [decide_eq_false c, Bool.false_and]
    simp only [s169_0, s169_1, s169_2, s169_3, s169_6, s169_7, s169_8, s169_11, s169_12, s169_13, s169_16, s169_17, s169_18, s169_21, s169_22, s169_23, s169_24, s169_27, s169_28, s169_31, s169_32, s169_35, s169_36, zps_0, zps_1, zps_2, zps_3, zps_9, Option.bind_some, Option.bind_none, Int.reduceEq, Int.reduceNe, Int.reduceLT, Int.reduceLE, Int.reduceNeg, Int.reduceAdd, Int.reduceSub, Int.reduceMul, reduceIte, if_true, if_false, true_and, and_true, false_and, and_false, or_true, true_or, or_false, false_or, not_true_eq_false, not_false_eq_true, ite_not, z_b0, z_b1, z_b01, rWK0 hWK, rWK1 hWK, rWK2 hWK, rWK3 hWK, rWK4 hWK, rWK5 hWK, rWK6 hWK, rWK7 hWK, rWK8 hWK, kWK0, kWK1, kWK2, kWK3, kWK4, kWK5, kWK6, kWK7, kWK8, kWK9, kWK10, kWK11, kWK12, kWK13, kWK14, kWK15, kWK16, SE, c, c', if_true, if_false, Bool.false_eq_true]
theorem cNs_r (hW : WRs m w) {a k : Int} (hk : k = -1 ∨ k = 1) (h : 0 ≤ cNs m a k) : cNs m a k = a + k ∧ (0 ≤ a ∧ a < 24) ∧ (0 ≤ a + k ∧ a + k < 24) ∧ (a + k) / 6 = a / 6 ∧ (a + k) % 6 < m 72 ((a + k) / 6) := by
  obtain ⟨-, ⟨t1, t2, t3⟩, h72, h131, -⟩ := hW
  unfold cNs at h ⊢
  by_cases c : (0 ≤ a ∧ a < 24) ∧ 0 ≤ a % 6 + k ∧ a % 6 + k < m 72 (a / 6)
  · rw [if_pos c]
    have e72 := h72 (a / 6) (by omega) (by omega)
    have le : m 72 (a / 6) ≤ 6 := by
      rw [e72]
      split
      next q => exact (h131 _ (by omega) q).2
      next => omega
    have e6 : (a + k) / 6 = a / 6 := by omega
    refine ⟨rfl, c.1, by omega, e6, ?_⟩
    rw [e6]
    omega
  · rw [if_neg c] at h
    omega
theorem tz_isRideOn (hWK : WK R) (hT : CTr m w D) {a k : Int} (ha : 0 ≤ a ∧ a < 24) (hk : k = -1 ∨ k = 1) : ev 170 0 [(2, 70), (0, a), (0, k), (9, 0)] [] R m = some ((0, if ro m D (m 70 14) a k = true then 1 else 0), R, m) := by
  obtain ⟨hL, hW, hC, hCr, hD⟩ := hT
  have NS := tz_nextStop (m := m) hWK (a := a) (b := k) (by omega)
  have IA := tz_isAboard (m := m) hWK (a := a) (by omega)
  have z1 : zw (64 + a) = 64 + a := zw_i (by omega) (by omega)
  have T1 := tz_timeFrom (m := m) hWK (64 + a)
  rw [if_pos (by omega), (hD (64 + a) (by omega) (by omega)).1] at T1
  unfold ro
  by_cases c : 0 ≤ cNs m a k
  · have c' : ¬ cNs m a k < 0 := by omega
    obtain ⟨e, -, r, -, -⟩ := cNs_r hW hk c
    rw [decide_eq_true c, Bool.true_and]
    rw [e] at NS c'
    have c2 : 0 ≤ a + k := by omega
    have z2 : zw (64 + (a + k)) = 64 + (a + k) := zw_i (by omega) (by omega)
    have T2 := tz_timeFrom (m := m) hWK (64 + (a + k))
    rw [if_pos (by omega), (hD (64 + (a + k)) (by omega) (by omega)).1] at T2
    have b2 := hD (64 + (a + k)) (by omega) (by omega)
    have z3 : zw (D (64 + (a + k)) + 1) = D (64 + (a + k)) + 1 := zw_i (by omega) (by omega)
    by_cases y : ybt (m 70 14) a = true
    · rw [if_pos y] at IA
      rw [y, Bool.true_and]
      by_cases g : D (64 + a) = D (64 + (a + k)) + 1
      · rw [decide_eq_true g]
        simp only [s170_0, s170_1, s170_2, s170_3, s170_6, s170_7, s170_8, s170_11, s170_12, s170_13, s170_16, s170_19, s170_20, s170_22, s170_23, s170_24, s170_27, s170_28, s170_30, s170_31, s170_32, s170_35, s170_36, s170_37, s170_40, s170_41, s170_44, s170_45, zps_0, zps_1, zps_2, zps_3, zps_9, Option.bind_some, Option.bind_none, Int.reduceEq, Int.reduceNe, Int.reduceLT, Int.reduceLE, Int.reduceNeg, Int.reduceAdd, Int.reduceSub, Int.reduceMul, reduceIte, if_true, if_false, true_and, and_true, false_and, and_false, or_true, true_or, or_false, false_or, not_true_eq_false, not_false_eq_true, ite_not, z_b0, z_b1, z_b01, rWK0 hWK, rWK1 hWK, rWK2 hWK, rWK3 hWK, rWK4 hWK, rWK5 hWK, rWK6 hWK, rWK7 hWK, rWK8 hWK, kWK0, kWK1, kWK2, kWK3, kWK4, kWK5, kWK6, kWK7, kWK8, kWK9, kWK10, kWK11, kWK12, kWK13, kWK14, kWK15, kWK16, NS, c', c2, IA, z1, z2, z3, T1, T2, g, if_true, if_false]
      · rw [decide_eq_false g]
        simp only [s170_0, s170_1, s170_2, s170_3, s170_6, s170_7, s170_8, s170_11, s170_12, s170_13, s170_16, s170_19, s170_20, s170_22, s170_23, s170_24, s170_27, s170_28, s170_30, s170_31, s170_32, s170_35, s170_36, s170_37, s170_40, s170_41, s170_44, s170_45, zps_0, zps_1, zps_2, zps_3, zps_9, Option.bind_some, Option.bind_none, Int.reduceEq, Int.reduceNe, Int.reduceLT, Int.reduceLE, Int.reduceNeg, Int.reduceAdd, Int.reduceSub, Int.reduceMul, reduceIte, if_true, if_false, true_and, and_true, false_and, and_false, or_true, true_or, or_false, false_or, not_true_eq_false, not_false_eq_true, ite_not, z_b0, z_b1, z_b01, rWK0 hWK, rWK1 hWK, rWK2 hWK, rWK3 hWK, rWK4 hWK, rWK5 hWK, rWK6 hWK, rWK7 hWK, rWK8 hWK, kWK0, kWK1, kWK2, kWK3, kWK4, kWK5, kWK6, kWK7, kWK8, kWK9, kWK10, kWK11, kWK12, kWK13, kWK14, kWK15, kWK16, NS, c', c2, IA, z1, z2, z3, T1, T2, g, if_true, if_false, Bool.false_eq_true]
    · rw [if_neg y] at IA
      have y' : ybt (m 70 14) a = false := by simpa using y
      rw [y', Bool.false_and]
      simp only [s170_0, s170_1, s170_2, s170_3, s170_6, s170_7, s170_8, s170_11, s170_12, s170_13, s170_16, s170_19, s170_20, s170_22, s170_23, s170_24, s170_27, s170_28, s170_30, s170_31, s170_32, s170_35, s170_36, s170_37, s170_40, s170_41, s170_44, s170_45, zps_0, zps_1, zps_2, zps_3, zps_9, Option.bind_some, Option.bind_none, Int.reduceEq, Int.reduceNe, Int.reduceLT, Int.reduceLE, Int.reduceNeg, Int.reduceAdd, Int.reduceSub, Int.reduceMul, reduceIte, if_true, if_false, true_and, and_true, false_and, and_false, or_true, true_or, or_false, false_or, not_true_eq_false, not_false_eq_true, ite_not, z_b0, z_b1, z_b01, rWK0 hWK, rWK1 hWK, rWK2 hWK, rWK3 hWK, rWK4 hWK, rWK5 hWK, rWK6 hWK, rWK7 hWK, rWK8 hWK, kWK0, kWK1, kWK2, kWK3, kWK4, kWK5, kWK6, kWK7, kWK8, kWK9, kWK10, kWK11, kWK12, kWK13, kWK14, kWK15, kWK16, NS, c', c2, IA, if_true, if_false, Bool.false_eq_true]
  · have c' : cNs m a k < 0 := by omega
    rw [decide_eq_false c, Bool.false_and]
    simp only [s170_0, s170_1, s170_2, s170_3, s170_6, s170_7, s170_8, s170_11, s170_12, s170_13, s170_16, s170_19, s170_20, s170_22, s170_23, s170_24, s170_27, s170_28, s170_30, s170_31, s170_32, s170_35, s170_36, s170_37, s170_40, s170_41, s170_44, s170_45, zps_0, zps_1, zps_2, zps_3, zps_9, Option.bind_some, Option.bind_none, Int.reduceEq, Int.reduceNe, Int.reduceLT, Int.reduceLE, Int.reduceNeg, Int.reduceAdd, Int.reduceSub, Int.reduceMul, reduceIte, if_true, if_false, true_and, and_true, false_and, and_false, or_true, true_or, or_false, false_or, not_true_eq_false, not_false_eq_true, ite_not, z_b0, z_b1, z_b01, rWK0 hWK, rWK1 hWK, rWK2 hWK, rWK3 hWK, rWK4 hWK, rWK5 hWK, rWK6 hWK, rWK7 hWK, rWK8 hWK, kWK0, kWK1, kWK2, kWK3, kWK4, kWK5, kWK6, kWK7, kWK8, kWK9, kWK10, kWK11, kWK12, kWK13, kWK14, kWK15, kWK16, NS, c, c', if_true, if_false, Bool.false_eq_true]
/-- a ride -/
theorem ro_iff (hT : CTr m w D) (hH : HI w H p) (hA : AB H p f x) {a k : Int} (hk : k = -1 ∨ k = 1) (ha : 0 ≤ a ∧ a < 24) : ro m D x a k = true ↔ (H (64 + a) = true ∧ (0 ≤ a + k ∧ a + k < 24) ∧ gC w D (64 + a) (64 + (a + k)) = true) := by
  obtain ⟨hL, hW, hC, hCr, hD⟩ := hT
  unfold ro
  rw [hA.2.2.1 a ha.1 ha.2]
  simp only [Bool.and_eq_true, decide_eq_true_eq]
  have tk : ∀ b, 0 ≤ b → b < 24 → wTk w (64 + a) (64 + b) = if a / 6 = b / 6 ∧ (a - b = 1 ∨ b - a = 1) then 1 else 1000000 := by
    intro b b0 b1
    unfold wTk
    rw [if_neg (by omega), if_pos (by omega), show (64 + a - 64) / 6 = a / 6 by congr 1; omega, show (64 + b - 64) / 6 = b / 6 by congr 1; omega]
    congr 1
    simp only [eq_iff_iff]
    constructor <;> (rintro ⟨h1, h2⟩; exact ⟨h1, by omega⟩)
  constructor
  · rintro ⟨h1, h2, h3⟩
    obtain ⟨e, -, r, e6, lt⟩ := cNs_r hW hk h1
    have sa := (hH.2 (64 + a) (by omega) (by omega) h2).1
    have hb : w 100 56 ≠ 0 := by
      unfold wSt at sa
      rw [if_neg (by omega)] at sa
      simp only [Bool.and_eq_true, decide_eq_true_eq] at sa
      exact sa.2.1
    have sb : wSt w (64 + (a + k)) = true := by
      obtain ⟨-, ⟨t1, t2, t3⟩, h72, h131, h71⟩ := hW
      have e72 := h72 ((a + k) / 6) (by omega) (by omega)
      rw [e72] at lt
      unfold wSt
      rw [if_neg (by omega), show (64 + (a + k) - 64) = a + k by omega]
      simp only [Bool.and_eq_true, decide_eq_true_eq]
      split at lt
      next c => exact ⟨by omega, hb, c, lt⟩
      next => omega
    have t := tk (a + k) r.1 r.2
    rw [if_pos ⟨e6.symm, by omega⟩] at t
    exact ⟨h2, r, (gC_iff _ _).2 ⟨by omega, by omega, sb, by omega, by omega⟩⟩
  · rintro ⟨h1, r, g⟩
    obtain ⟨-, -, g3, g4, g5⟩ := (gC_iff _ _).1 g
    have t := tk (a + k) r.1 r.2
    split at t
    next c =>
      refine ⟨?_, h1, by omega⟩
      obtain ⟨-, ⟨t1, t2, t3⟩, h72, h131, h71⟩ := hW
      have e72 := h72 (a / 6) (by omega) (by omega)
      unfold wSt at g3
      rw [if_neg (by omega), show (64 + (a + k) - 64) = a + k by omega] at g3
      simp only [Bool.and_eq_true, decide_eq_true_eq] at g3
      unfold cNs
      rw [← c.1] at g3
      rw [if_pos ⟨ha, by omega, by rw [e72, if_pos g3.2.2.1]; omega⟩]
      omega
    next => omega
end TRACE1
