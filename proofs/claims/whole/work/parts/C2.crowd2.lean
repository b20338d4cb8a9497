/-! the class's crowd, a trip at once -/
section CROWD2
variable {R m w x : zM} {T : zTS} {t : Int} {c : Int → Int}
theorem TRw_c {m' : zM} (h85 : m' 85 = m 85) (h86 : m' 86 = m 86) (h : TRw m T t) : TRw m' T t := by
  unfold TRw at *
  rw [h85, h86]
  exact h
theorem LDok_75 (f : Int → Int) (hL : LDok m) : LDok (zpr m 75 f) := by
  unfold LDok LDr cGo cBs cGr cQ at *
  simp (disch := decide) only [zpr_ne]
  exact hL
theorem WRs_75 (f : Int → Int) (hW : WRs m w) : WRs (zpr m 75 f) w := WRs_c (fun b b0 b1 => zpr_ne (by omega)) (by rw [zpr_ne (by decide)]) (zpr_ne (by decide)) (zpr_ne (by decide)) hW
theorem tz_taddCrowd (hPK : PK R) (hWK : WK R) (hL : LDok m) (hW : WRs m w) (hC : CWd m c) (hc : ∀ e, 0 ≤ e → e < 128 → -1000 ≤ c e ∧ c e ≤ 1000) (ht : 0 ≤ t ∧ t < m 79 1 ∧ t < 8) (hT : TRw m T t) (hO : TOt w T t) {y : Int} (hy : y = 1 ∨ y = -1) : ∃ f : Int → Int, ev 138 0 [(2, 79), (0, t), (0, y), (9, 0)] [] R m = some ((9, 0), R, zpr m 75 f) ∧ CWd (zpr m 75 f) (fun e => c e + y * tCw1 T t e) := by
  have hWX := wX_WRs hW (fun _ => 0)
  have L0 : ev 138 0 [(2, 79), (0, t), (0, y), (9, 0)] [] R m = ev 138 2 [(2, 79), (0, t), (0, y), (0, 1)] [] R (zpr m 75 (m 75)) := by
    rw [zpr_self]
    simp only [s138_0, s138_1, s138_3, s138_4, s138_5, s138_8, s138_11, s138_12, s138_15, s138_16, s138_17, s138_18, s138_19, s138_20, s138_23, s138_24, s138_25, s138_26, s138_29, s138_30, s138_33, s138_36, s138_39, zps_0, zps_1, zps_2, zps_3, zps_9, Option.bind_some, Option.bind_none, Int.reduceEq, Int.reduceNe, Int.reduceLT, Int.reduceLE, Int.reduceNeg, Int.reduceAdd, Int.reduceSub, Int.reduceMul, reduceIte, if_true, if_false, true_and, and_true, false_and, and_false, or_true, true_or, or_false, false_or, not_true_eq_false, not_false_eq_true, ite_not, z_b0, z_b1, z_b01, rPK0 hPK, rPK1 hPK, rPK2 hPK, rPK3 hPK, rPK4 hPK, rPK5 hPK, rPK6 hPK, rPK7 hPK, kPK0, kPK1, kPK2, kPK3, kPK4, kPK5, kPK6, kPK7, kPK8, kPK9, kPK10, kPK11, kPK12, kPK13, kPK14]
  rw [L0]
  have GT : ∀ f, ev 139 0 [(2, 79), (0, t)] [] R (zpr m 75 f) = some ((0, T.1 t), R, zpr m 75 f) := fun f => by
    have h := tz_goesThrough (m := zpr m 75 f) hPK (t := t) (by rw [zpr_ne (by decide)]; exact ht)
    rw [zpr_ne (by decide), hT.1] at h
    exact h
  have PA : ∀ f i, 0 ≤ i → i < T.1 t → ev 140 0 [(2, 79), (0, t), (0, i)] [] R (zpr m 75 f) = some ((0, T.2 (64 * t + i)), R, zpr m 75 f) := fun f i i0 i1 => by
    have h := tz_tplotAt (m := zpr m 75 f) hPK (t := t) (i := i) (by rw [zpr_ne (by decide)]; exact ht) (by rw [zpr_ne (by decide), hT.1]; have := hO.1.2; omega)
    rw [zpr_ne (by decide), hT.2 i i0 i1] at h
    exact h
  have one : (fun e => c e + y * zcnt (fun i => decide (1 ≤ i ∧ zed T t i = e)) (1 : Int).toNat) = c := by
    funext e
    show c e + y * zcnt (fun i => decide (1 ≤ i ∧ zed T t i = e)) 1 = c e
    have : zcnt (fun i => decide (1 ≤ i ∧ zed T t i = e)) 1 = 0 := by
      simp only [zcnt]
      rw [if_neg (by simp)]
      omega
    rw [this]; omega
  by_cases big : T.1 t ≤ 1
  · refine ⟨m 75, ?_, ?_⟩
    · rw [s138_2]
      have b1 : ¬ (1 : Int) < T.1 t := by omega
      have b2 : T.1 t ≤ 1 := big
      simp only [s138_0, s138_1, s138_3, s138_4, s138_5, s138_8, s138_11, s138_12, s138_15, s138_16, s138_17, s138_18, s138_19, s138_20, s138_23, s138_24, s138_25, s138_26, s138_29, s138_30, s138_33, s138_36, s138_39, zps_0, zps_1, zps_2, zps_3, zps_9, Option.bind_some, Option.bind_none, Int.reduceEq, Int.reduceNe, Int.reduceLT, Int.reduceLE, Int.reduceNeg, Int.reduceAdd, Int.reduceSub, Int.reduceMul, reduceIte, if_true, if_false, true_and, and_true, false_and, and_false, or_true, true_or, or_false, false_or, not_true_eq_false, not_false_eq_true, ite_not, z_b0, z_b1, z_b01, rPK0 hPK, rPK1 hPK, rPK2 hPK, rPK3 hPK, rPK4 hPK, rPK5 hPK, rPK6 hPK, rPK7 hPK, kPK0, kPK1, kPK2, kPK3, kPK4, kPK5, kPK6, kPK7, kPK8, kPK9, kPK10, kPK11, kPK12, kPK13, kPK14, GT, b1, b2, if_true, if_false]
    · rw [zpr_self]
      have o1 : ∀ e, zcnt (fun i => decide (1 ≤ i ∧ zed T t i = e)) 1 = 0 := by
        intro e
        simp only [zcnt]
        rw [if_neg (by simp)]
        omega
      have e : (fun e => c e + y * tCw1 T t e) = c := by
        funext e
        have z : tCw1 T t e = 0 := by
          unfold tCw1
          have t0 := hO.1.1
          by_cases z : T.1 t = 0
          · rw [z]; rfl
          · rw [show T.1 t = 1 by omega]; exact o1 e
        rw [z]; omega
      rw [e]; exact hC
  · refine zloop (fun r => ∃ f : Int → Int, r = some ((9, 0), R, zpr m 75 f) ∧ CWd (zpr m 75 f) (fun e => c e + y * tCw1 T t e)) (fun i (f : Int → Int) => ev 138 2 [(2, 79), (0, t), (0, y), (0, i)] [] R (zpr m 75 f)) (T.1 t) (fun i f => 1 ≤ i ∧ CWd (zpr m 75 f) (fun e => c e + y * zcnt (fun i => decide (1 ≤ i ∧ zed T t i = e)) i.toNat)) ?_ ?_ 1 (m 75) (by omega) ⟨by omega, by rw [one, zpr_self]; exact hC⟩
    · rintro i f hi ⟨i0, hI⟩ ih
      have c1 : ¬ T.1 t ≤ i := by omega
      have z1 : zw (i - 1) = i - 1 := zw_i (by have := hO.1.2; omega) (by have := hO.1.2; omega)
      have z2 : zw (i + 1) = i + 1 := zw_i (by have := hO.1.2; omega) (by have := hO.1.2; omega)
      obtain ⟨s1, s2, fz⟩ := hO.2.2 i i0 hi
      obtain ⟨f', e1, h1⟩ := tz_addCrowdW (R := R) (m := zpr m 75 f) (w := wZ w) hWK (LDok_75 f hL) (WRs_75 f hWX) hI (fun e e0 e1 => by
        have := hc e e0 e1
        have b := zcnt_bd (fun i => decide (1 ≤ i ∧ zed T t i = e)) i.toNat
        have := hO.1.2
        (try dsimp only)
        rcases hy with q | q <;> rw [q] <;> omega) s1 s2 (hO.2.1 (i - 1) (by omega) (by omega)) (hO.2.1 i (by omega) hi) (by unfold wZ; rw [wX_f w _ (by decide)]; exact fz) hy
      rw [zpr_zpr] at e1 h1
      rw [s138_2]
      simp only [s138_0, s138_1, s138_3, s138_4, s138_5, s138_8, s138_11, s138_12, s138_15, s138_16, s138_17, s138_18, s138_19, s138_20, s138_23, s138_24, s138_25, s138_26, s138_29, s138_30, s138_33, s138_36, s138_39, zps_0, zps_1, zps_2, zps_3, zps_9, Option.bind_some, Option.bind_none, Int.reduceEq, Int.reduceNe, Int.reduceLT, Int.reduceLE, Int.reduceNeg, Int.reduceAdd, Int.reduceSub, Int.reduceMul, reduceIte, if_true, if_false, true_and, and_true, false_and, and_false, or_true, true_or, or_false, false_or, not_true_eq_false, not_false_eq_true, ite_not, z_b0, z_b1, z_b01, rPK0 hPK, rPK1 hPK, rPK2 hPK, rPK3 hPK, rPK4 hPK, rPK5 hPK, rPK6 hPK, rPK7 hPK, kPK0, kPK1, kPK2, kPK3, kPK4, kPK5, kPK6, kPK7, kPK8, kPK9, kPK10, kPK11, kPK12, kPK13, kPK14, rWK0 hWK, rWK1 hWK, rWK2 hWK, rWK3 hWK, rWK4 hWK, rWK5 hWK, rWK6 hWK, rWK7 hWK, rWK8 hWK, kWK0, kWK1, kWK2, kWK3, kWK4, kWK5, kWK6, kWK7, kWK8, kWK9, kWK10, kWK11, kWK12, kWK13, kWK14, kWK15, kWK16, GT, hi, c1, z1, z2, PA _ (i - 1) (by omega) (by omega), PA _ i (by omega) hi, e1, if_true, if_false]
      refine ih _ ⟨by omega, ?_⟩
      have e : (fun e => c e + y * zcnt (fun i => decide (1 ≤ i ∧ zed T t i = e)) (i + 1).toNat) = fun e => c e + y * zcnt (fun i => decide (1 ≤ i ∧ zed T t i = e)) i.toNat + if e = wEd (T.2 (64 * t + (i - 1))) (T.2 (64 * t + i)) then y else 0 := by
        funext e
        rw [show (i + 1).toNat = i.toNat + 1 by omega]
        simp only [zcnt]
        rw [show ((i.toNat : Nat) : Int) = i by omega]
        by_cases q : e = wEd (T.2 (64 * t + (i - 1))) (T.2 (64 * t + i))
        · rw [if_pos q, if_pos (decide_eq_true ⟨i0, by unfold zed; exact q.symm⟩)]
          rcases hy with h | h <;> rw [h] <;> omega
        · rw [if_neg q, if_neg (by simp only [decide_eq_true_eq]; intro z; unfold zed at z; exact q z.2.symm)]
          rcases hy with h | h <;> rw [h] <;> omega
      rw [e]
      exact h1
    · rintro f ⟨-, hI⟩
      refine ⟨f, ?_, hI⟩
      rw [s138_2]
      simp only [s138_0, s138_1, s138_3, s138_4, s138_5, s138_8, s138_11, s138_12, s138_15, s138_16, s138_17, s138_18, s138_19, s138_20, s138_23, s138_24, s138_25, s138_26, s138_29, s138_30, s138_33, s138_36, s138_39, zps_0, zps_1, zps_2, zps_3, zps_9, Option.bind_some, Option.bind_none, Int.reduceEq, Int.reduceNe, Int.reduceLT, Int.reduceLE, Int.reduceNeg, Int.reduceAdd, Int.reduceSub, Int.reduceMul, reduceIte, if_true, if_false, true_and, and_true, false_and, and_false, or_true, true_or, or_false, false_or, not_true_eq_false, not_false_eq_true, ite_not, z_b0, z_b1, z_b01, rPK0 hPK, rPK1 hPK, rPK2 hPK, rPK3 hPK, rPK4 hPK, rPK5 hPK, rPK6 hPK, rPK7 hPK, kPK0, kPK1, kPK2, kPK3, kPK4, kPK5, kPK6, kPK7, kPK8, kPK9, kPK10, kPK11, kPK12, kPK13, kPK14, GT, Int.le_refl, if_true]
theorem tz_timeOfWay (hPK : PK R) (hWK : WK R) (hV : MV w) (hL : LDok m) (hW : WRs m w) (hC : CRm m (wX w c)) (h10 : m 70 10 = 1) (hc : ∀ e, 0 ≤ e → e < 128 → 0 ≤ c e ∧ c e ≤ 1000) (ht : 0 ≤ t ∧ t < m 79 1 ∧ t < 8) (hT : TRw m T t) (hO : TOt w T t) : ev 143 0 [(2, 79), (0, t), (9, 0), (9, 0)] [] R m = some ((0, tTk (wX w c) T t), R, m) := by
  have hWX := wX_WRs hW c
  have GT := tz_goesThrough (m := m) hPK ht
  rw [hT.1] at GT
  have PA : ∀ i, 0 ≤ i → i < T.1 t → ev 140 0 [(2, 79), (0, t), (0, i)] [] R m = some ((0, T.2 (64 * t + i)), R, m) := fun i i0 i1 => by
    have h := tz_tplotAt (m := m) hPK (i := i) ht (by rw [hT.1]; have := hO.1.2; omega)
    rw [hT.2 i i0 i1] at h
    exact h
  have bd : ∀ k : Nat, (k : Int) ≤ T.1 t → 0 ≤ zsum (fun i => if 1 ≤ i then wTk (wX w c) (T.2 (64 * t + (i - 1))) (T.2 (64 * t + i)) else 0) k ∧ zsum (fun i => if 1 ≤ i then wTk (wX w c) (T.2 (64 * t + (i - 1))) (T.2 (64 * t + i)) else 0) k < 200000 := by
    intro k hk
    have := tTk_b (T := (fun _ => (k : Int), T.2)) (t := t) hV hc ⟨⟨by dsimp only; omega, by have := hO.1.2; dsimp only; omega⟩, fun i i0 i1 => hO.2.1 i i0 (by dsimp only at i1; omega), fun i i0 i1 => hO.2.2 i i0 (by dsimp only at i1; omega)⟩
    unfold tTk at this
    dsimp only at this
    rw [show ((k : Int)).toNat = k by omega] at this
    exact this
  have L0 : ev 143 0 [(2, 79), (0, t), (9, 0), (9, 0)] [] R m = ev 143 4 [(2, 79), (0, t), (0, 0), (0, 1)] [] R m := by
    simp only [s143_0, s143_1, s143_2, s143_3, s143_5, s143_6, s143_7, s143_10, s143_13, s143_14, s143_15, s143_18, s143_19, s143_20, s143_21, s143_22, s143_23, s143_26, s143_27, s143_28, s143_29, s143_32, s143_35, s143_36, s143_37, s143_40, s143_43, s143_44, zps_0, zps_1, zps_2, zps_3, zps_9, Option.bind_some, Option.bind_none, Int.reduceEq, Int.reduceNe, Int.reduceLT, Int.reduceLE, Int.reduceNeg, Int.reduceAdd, Int.reduceSub, Int.reduceMul, reduceIte, if_true, if_false, true_and, and_true, false_and, and_false, or_true, true_or, or_false, false_or, not_true_eq_false, not_false_eq_true, ite_not, z_b0, z_b1, z_b01, rPK0 hPK, rPK1 hPK, rPK2 hPK, rPK3 hPK, rPK4 hPK, rPK5 hPK, rPK6 hPK, rPK7 hPK, kPK0, kPK1, kPK2, kPK3, kPK4, kPK5, kPK6, kPK7, kPK8, kPK9, kPK10, kPK11, kPK12, kPK13, kPK14]
  rw [L0]
  have sum1 : ∀ f : Int → Int, zsum (fun i => if 1 ≤ i then f i else 0) (1 : Int).toNat = 0 := by
    intro f
    show zsum (fun i => if 1 ≤ i then f i else 0) 1 = 0
    simp only [zsum]
    rw [if_neg (by omega)]
    omega
  by_cases big : T.1 t ≤ 1
  · have b1 : ¬ (1 : Int) < T.1 t := by omega
    have z : tTk (wX w c) T t = 0 := by
      unfold tTk
      by_cases z : T.1 t = 1
      · rw [z]; exact sum1 _
      · rw [show T.1 t = 0 by have := hO.1.1; omega]; rfl
    rw [s143_4, z]
    simp only [s143_0, s143_1, s143_2, s143_3, s143_5, s143_6, s143_7, s143_10, s143_13, s143_14, s143_15, s143_18, s143_19, s143_20, s143_21, s143_22, s143_23, s143_26, s143_27, s143_28, s143_29, s143_32, s143_35, s143_36, s143_37, s143_40, s143_43, s143_44, zps_0, zps_1, zps_2, zps_3, zps_9, Option.bind_some, Option.bind_none, Int.reduceEq, Int.reduceNe, Int.reduceLT, Int.reduceLE, Int.reduceNeg, Int.reduceAdd, Int.reduceSub, Int.reduceMul, reduceIte, if_true, if_false, true_and, and_true, false_and, and_false, or_true, true_or, or_false, false_or, not_true_eq_false, not_false_eq_true, ite_not, z_b0, z_b1, z_b01, rPK0 hPK, rPK1 hPK, rPK2 hPK, rPK3 hPK, rPK4 hPK, rPK5 hPK, rPK6 hPK, rPK7 hPK, kPK0, kPK1, kPK2, kPK3, kPK4, kPK5, kPK6, kPK7, kPK8, kPK9, kPK10, kPK11, kPK12, kPK13, kPK14, GT, b1, big, if_true, if_false]
  · refine zloop (fun r => r = some ((0, tTk (wX w c) T t), R, m)) (fun i (s : Int) => ev 143 4 [(2, 79), (0, t), (0, s), (0, i)] [] R m) (T.1 t) (fun i s => 1 ≤ i ∧ s = zsum (fun i => if 1 ≤ i then wTk (wX w c) (T.2 (64 * t + (i - 1))) (T.2 (64 * t + i)) else 0) i.toNat) ?_ ?_ 1 0 (by omega) ⟨by omega, (sum1 _).symm⟩
    · rintro i s hi ⟨i0, hI⟩ ih
      have c1 : ¬ T.1 t ≤ i := by omega
      have le := hO.1.2
      have z1 : zw (i - 1) = i - 1 := zw_i (by omega) (by omega)
      have z2 : zw (i + 1) = i + 1 := zw_i (by omega) (by omega)
      obtain ⟨s1, s2, fz⟩ := hO.2.2 i i0 hi
      rw [← wX_St w c] at s1 s2
      have TB := tz_timeBeside (R := R) (m := m) hWK hL hWX hC h10 s1 s2 (hO.2.1 (i - 1) (by omega) (by omega)) (hO.2.1 i (by omega) hi) (by rw [wX_f w _ (by decide)]; exact fz)
      have nx : zsum (fun i => if 1 ≤ i then wTk (wX w c) (T.2 (64 * t + (i - 1))) (T.2 (64 * t + i)) else 0) (i + 1).toNat = s + wTk (wX w c) (T.2 (64 * t + (i - 1))) (T.2 (64 * t + i)) := by
        rw [show (i + 1).toNat = i.toNat + 1 by omega, hI]
        simp only [zsum]
        rw [show ((i.toNat : Nat) : Int) = i by omega, if_pos i0]
      have b := bd (i + 1).toNat (by omega)
      rw [nx] at b
      have z3 : zw (s + wTk (wX w c) (T.2 (64 * t + (i - 1))) (T.2 (64 * t + i))) = s + wTk (wX w c) (T.2 (64 * t + (i - 1))) (T.2 (64 * t + i)) := zw_i (by omega) (by omega)
      rw [s143_4]
      simp only [s143_0, s143_1, s143_2, s143_3, s143_5, s143_6, s143_7, s143_10, s143_13, s143_14, s143_15, s143_18, s143_19, s143_20, s143_21, s143_22, s143_23, s143_26, s143_27, s143_28, s143_29, s143_32, s143_35, s143_36, s143_37, s143_40, s143_43, s143_44, zps_0, zps_1, zps_2, zps_3, zps_9, Option.bind_some, Option.bind_none, Int.reduceEq, Int.reduceNe, Int.reduceLT, Int.reduceLE, Int.reduceNeg, Int.reduceAdd, Int.reduceSub, Int.reduceMul, reduceIte, if_true, if_false, true_and, and_true, false_and, and_false, or_true, true_or, or_false, false_or, not_true_eq_false, not_false_eq_true, ite_not, z_b0, z_b1, z_b01, rPK0 hPK, rPK1 hPK, rPK2 hPK, rPK3 hPK, rPK4 hPK, rPK5 hPK, rPK6 hPK, rPK7 hPK, kPK0, kPK1, kPK2, kPK3, kPK4, kPK5, kPK6, kPK7, kPK8, kPK9, kPK10, kPK11, kPK12, kPK13, kPK14, rWK0 hWK, rWK1 hWK, rWK2 hWK, rWK3 hWK, rWK4 hWK, rWK5 hWK, rWK6 hWK, rWK7 hWK, rWK8 hWK, kWK0, kWK1, kWK2, kWK3, kWK4, kWK5, kWK6, kWK7, kWK8, kWK9, kWK10, kWK11, kWK12, kWK13, kWK14, kWK15, kWK16, GT, hi, c1, z1, z2, z3, PA (i - 1) (by omega) (by omega), PA i (by omega) hi, TB, if_true, if_false]
      exact ih _ ⟨by omega, nx.symm⟩
    · rintro s ⟨-, hI⟩
      rw [s143_4]
      simp only [s143_0, s143_1, s143_2, s143_3, s143_5, s143_6, s143_7, s143_10, s143_13, s143_14, s143_15, s143_18, s143_19, s143_20, s143_21, s143_22, s143_23, s143_26, s143_27, s143_28, s143_29, s143_32, s143_35, s143_36, s143_37, s143_40, s143_43, s143_44, zps_0, zps_1, zps_2, zps_3, zps_9, Option.bind_some, Option.bind_none, Int.reduceEq, Int.reduceNe, Int.reduceLT, Int.reduceLE, Int.reduceNeg, Int.reduceAdd, Int.reduceSub, Int.reduceMul, reduceIte, if_true, if_false, true_and, and_true, false_and, and_false, or_true, true_or, or_false, false_or, not_true_eq_false, not_false_eq_true, ite_not, z_b0, z_b1, z_b01, rPK0 hPK, rPK1 hPK, rPK2 hPK, rPK3 hPK, rPK4 hPK, rPK5 hPK, rPK6 hPK, rPK7 hPK, kPK0, kPK1, kPK2, kPK3, kPK4, kPK5, kPK6, kPK7, kPK8, kPK9, kPK10, kPK11, kPK12, kPK13, kPK14, GT, Int.le_refl, if_true]
      rw [hI]
      rfl
theorem tz_keepTraced (hPK : PK R) (hWK : WK R) (ht : 0 ≤ t ∧ t < m 79 1 ∧ t < 8) (hl : 0 ≤ m 70 11 ∧ m 70 11 ≤ 64) : ∃ g : Int → Int, ev 136 0 [(2, 79), (0, t), (9, 0)] [] R m = some ((9, 0), R, zpr (zpr m 85 (zrw (m 85) t (m 70 11))) 86 g) ∧ (∀ i, 0 ≤ i → i < m 70 11 → g (64 * t + i) = m 78 i) ∧ ∀ j, ¬ (64 * t ≤ j ∧ j < 64 * t + 64) → g j = m 86 j := by
  obtain ⟨L, hLL⟩ : ∃ L, m 70 11 = L := ⟨_, rfl⟩
  rw [hLL] at hl ⊢
  have h := tz_phas (m := m) hPK t
  rw [if_pos ht] at h
  have c : 0 ≤ t ∧ t < 8 := by omega
  obtain ⟨y, hy⟩ : ∃ y, zpr m 85 (zrw (m 85) t L) = y := ⟨_, rfl⟩
  have y85 : y 85 t = L := by rw [← hy, zpr_at, zrw_at]
  have y86 : y 86 = m 86 := by rw [← hy, zpr_ne (by decide)]
  have y78 : y 78 = m 78 := by rw [← hy, zpr_ne (by decide)]
  have y70 : y 70 11 = L := by rw [← hy, zpr_ne (by decide), hLL]
  have mi : (if (64 : Int) < L then 64 else L) = L := by rw [if_neg (by omega)]
  have mi2 : (if L < (64 : Int) then L else 64) = L := by split <;> omega
  have L0 : ev 136 0 [(2, 79), (0, t), (9, 0)] [] R m = ev 136 29 [(2, 79), (0, t), (0, 0)] [] R (zpr y 86 (y 86)) := by
    rw [zpr_self, ← hy]
    simp only [s136_0, s136_1, s136_2, s136_5, s136_8, s136_9, s136_10, s136_13, s136_14, s136_15, s136_18, s136_21, s136_23, s136_26, s136_27, s136_28, s136_30, s136_31, s136_34, s136_35, s136_36, s136_39, s136_40, s136_43, s136_44, s136_46, s136_47, s136_48, s136_49, s136_50, s136_53, s136_54, s136_57, s136_58, s136_61, s136_64, zps_0, zps_1, zps_2, zps_3, zps_9, Option.bind_some, Option.bind_none, Int.reduceEq, Int.reduceNe, Int.reduceLT, Int.reduceLE, Int.reduceNeg, Int.reduceAdd, Int.reduceSub, Int.reduceMul, reduceIte, if_true, if_false, true_and, and_true, false_and, and_false, or_true, true_or, or_false, false_or, not_true_eq_false, not_false_eq_true, ite_not, z_b0, z_b1, z_b01, rPK0 hPK, rPK1 hPK, rPK2 hPK, rPK3 hPK, rPK4 hPK, rPK5 hPK, rPK6 hPK, rPK7 hPK, kPK0, kPK1, kPK2, kPK3, kPK4, kPK5, kPK6, kPK7, kPK8, kPK9, kPK10, kPK11, kPK12, kPK13, kPK14, rWK0 hWK, rWK1 hWK, rWK2 hWK, rWK3 hWK, rWK4 hWK, rWK5 hWK, rWK6 hWK, rWK7 hWK, rWK8 hWK, kWK0, kWK1, kWK2, kWK3, kWK4, kWK5, kWK6, kWK7, kWK8, kWK9, kWK10, kWK11, kWK12, kWK13, kWK14, kWK15, kWK16, h, c, hLL, mi, mi2, and_self, if_true, if_false, zup_zpr]
  rw [L0, hy, ← y78, ← y86]
  have r85 : ∀ g : Int → Int, zpr y 86 g 85 t = L := fun g => by rw [zpr_ne (by decide), y85]
  have WP : ∀ (g : Int → Int) i, 0 ≤ i → i < L → ev 172 0 [(2, 70), (0, i)] [] R (zpr y 86 g) = some ((0, y 78 i), R, zpr y 86 g) := fun g i i0 i1 => by
    have h := tz_wplotAt (m := zpr y 86 g) hWK i (by rw [zpr_ne (by decide), y70]; omega)
    rw [zpr_ne (by decide), y70, if_pos ⟨i0, i1⟩, zpr_ne (by decide)] at h
    exact h
  refine zloop (fun r => ∃ g : Int → Int, r = some ((9, 0), R, zpr y 86 g) ∧ (∀ i, 0 ≤ i → i < L → g (64 * t + i) = y 78 i) ∧ ∀ j, ¬ (64 * t ≤ j ∧ j < 64 * t + 64) → g j = y 86 j) (fun i (g : Int → Int) => ev 136 29 [(2, 79), (0, t), (0, i)] [] R (zpr y 86 g)) L (fun i g => 0 ≤ i ∧ (∀ k, 0 ≤ k → k < i → g (64 * t + k) = y 78 k) ∧ ∀ j, ¬ (64 * t ≤ j ∧ j < 64 * t + 64) → g j = y 86 j) ?_ ?_ 0 (y 86) (by omega) ⟨by omega, fun k k0 k1 => by omega, fun j hj => rfl⟩
  · rintro i g hi ⟨i0, hI, hJ⟩ ih
    have c1 : ¬ L ≤ i := by omega
    have z1 : zw (t * 64) = t * 64 := zw_i (by omega) (by omega)
    have z2 : zw (t * 64 + i) = 64 * t + i := by rw [zw_i (by omega) (by omega)]; omega
    have z3 : zw (i + 1) = i + 1 := zw_i (by omega) (by omega)
    have c2 : 0 ≤ 64 * t + i ∧ 64 * t + i < 512 := by omega
    rw [s136_29]
    simp only [s136_0, s136_1, s136_2, s136_5, s136_8, s136_9, s136_10, s136_13, s136_14, s136_15, s136_18, s136_21, s136_23, s136_26, s136_27, s136_28, s136_30, s136_31, s136_34, s136_35, s136_36, s136_39, s136_40, s136_43, s136_44, s136_46, s136_47, s136_48, s136_49, s136_50, s136_53, s136_54, s136_57, s136_58, s136_61, s136_64, zps_0, zps_1, zps_2, zps_3, zps_9, Option.bind_some, Option.bind_none, Int.reduceEq, Int.reduceNe, Int.reduceLT, Int.reduceLE, Int.reduceNeg, Int.reduceAdd, Int.reduceSub, Int.reduceMul, reduceIte, if_true, if_false, true_and, and_true, false_and, and_false, or_true, true_or, or_false, false_or, not_true_eq_false, not_false_eq_true, ite_not, z_b0, z_b1, z_b01, rPK0 hPK, rPK1 hPK, rPK2 hPK, rPK3 hPK, rPK4 hPK, rPK5 hPK, rPK6 hPK, rPK7 hPK, kPK0, kPK1, kPK2, kPK3, kPK4, kPK5, kPK6, kPK7, kPK8, kPK9, kPK10, kPK11, kPK12, kPK13, kPK14, rWK0 hWK, rWK1 hWK, rWK2 hWK, rWK3 hWK, rWK4 hWK, rWK5 hWK, rWK6 hWK, rWK7 hWK, rWK8 hWK, kWK0, kWK1, kWK2, kWK3, kWK4, kWK5, kWK6, kWK7, kWK8, kWK9, kWK10, kWK11, kWK12, kWK13, kWK14, kWK15, kWK16, c, r85, hi, c1, z1, z2, z3, c2, WP g i i0 hi, and_self, if_true, if_false, zup_zpr, zpr_at, zpr_zpr]
    refine ih _ ⟨by omega, fun k k0 k1 => ?_, fun j hj => ?_⟩
    · rw [zrw_if]
      by_cases e : k = i
      · rw [if_pos (by omega), e]
      · rw [if_neg (by omega)]; exact hI k k0 (by omega)
    · rw [zrw_ne (by omega)]; exact hJ j hj
  · rintro g ⟨-, hI, hJ⟩
    refine ⟨g, ?_, hI, hJ⟩
    rw [s136_29]
    simp only [s136_0, s136_1, s136_2, s136_5, s136_8, s136_9, s136_10, s136_13, s136_14, s136_15, s136_18, s136_21, s136_23, s136_26, s136_27, s136_28, s136_30, s136_31, s136_34, s136_35, s136_36, s136_39, s136_40, s136_43, s136_44, s136_46, s136_47, s136_48, s136_49, s136_50, s136_53, s136_54, s136_57, s136_58, s136_61, s136_64, zps_0, zps_1, zps_2, zps_3, zps_9, Option.bind_some, Option.bind_none, Int.reduceEq, Int.reduceNe, Int.reduceLT, Int.reduceLE, Int.reduceNeg, Int.reduceAdd, Int.reduceSub, Int.reduceMul, reduceIte, if_true, if_false, true_and, and_true, false_and, and_false, or_true, true_or, or_false, false_or, not_true_eq_false, not_false_eq_true, ite_not, z_b0, z_b1, z_b01, rPK0 hPK, rPK1 hPK, rPK2 hPK, rPK3 hPK, rPK4 hPK, rPK5 hPK, rPK6 hPK, rPK7 hPK, kPK0, kPK1, kPK2, kPK3, kPK4, kPK5, kPK6, kPK7, kPK8, kPK9, kPK10, kPK11, kPK12, kPK13, kPK14, c, r85, Int.le_refl, and_self, if_true]
end CROWD2
