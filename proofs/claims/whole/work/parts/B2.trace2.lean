/-! the class traces: changes -/
def zAB (m : zM) (f x : Int) : zM := zpr m 70 (zrw (zrw (m 70) 13 f) 14 x)
section TRACE2
variable {R m w : zM} {D : Int → Int} {H : Int → Bool} {p f x : Int}
theorem zAB_13 (m : zM) (f x g : Int) : zup (zAB m f x) 70 13 g = zAB m g x := by
  unfold zAB
  rw [zup_zpr, zpr_at, zpr_zpr]
  congr 1
  funext q
  simp only [zrw_if]
  (repeat' split) <;> first | rfl | (exfalso; omega)
theorem zAB_14 (m : zM) (f x g : Int) : zup (zAB m f x) 70 14 g = zAB m f g := by
  unfold zAB
  rw [zup_zpr, zpr_at, zpr_zpr]
  congr 1
  funext q
  simp only [zrw_if]
  (repeat' split) <;> first | rfl | (exfalso; omega)
theorem zAB_f (m : zM) (f x : Int) : zAB m f x 70 13 = f := by unfold zAB; rw [zpr_at, zrw_ne (by decide), zrw_at]
theorem zAB_x (m : zM) (f x : Int) : zAB m f x 70 14 = x := by unfold zAB; rw [zpr_at, zrw_at]
theorem zAB_k (m : zM) (f x : Int) {k : Int} (h : k ≠ 13 ∧ k ≠ 14) : zAB m f x 70 k = m 70 k := by unfold zAB; rw [zpr_at, zrw_ne h.2, zrw_ne h.1]
theorem zAB_b (m : zM) (f x : Int) {b : Int} (h : b ≠ 70) : zAB m f x b = m b := by unfold zAB; rw [zpr_ne h]
theorem zAB_self (m : zM) : zAB m (m 70 13) (m 70 14) = m := by
  unfold zAB
  have e : zrw (zrw (m 70) 13 (m 70 13)) 14 (m 70 14) = m 70 := by
    funext q
    simp only [zrw_if]
    split
    next h => rw [h]
    next =>
      split
      next h => rw [h]
      next => rfl
  rw [e, zpr_self]
/-- what tracing leaves as it is -/
def TQ (m m' : zM) : Prop := (∀ b, b ≠ 70 → b ≠ 78 → m' b = m b) ∧ ∀ k, k ≠ 11 → k ≠ 13 → k ≠ 14 → m' 70 k = m 70 k
theorem TQ_zAB (m : zM) (f x : Int) : TQ m (zAB m f x) := ⟨fun _ h _ => zAB_b m f x h, fun _ _ h1 h2 => zAB_k m f x ⟨h1, h2⟩⟩
theorem CTr_c {m' : zM} (h : TQ m m') (hT : CTr m w D) : CTr m' w D := by
  obtain ⟨h1, h2⟩ := h
  obtain ⟨hL, hW, hC, hCr, hD⟩ := hT
  have e3 := h1 3 (by decide) (by decide)
  have e4 := h1 4 (by decide) (by decide)
  have e5 := h1 5 (by decide) (by decide)
  have e73 := h1 73 (by decide) (by decide)
  have e74 := h1 74 (by decide) (by decide)
  have e75 := h1 75 (by decide) (by decide)
  have e76 := h1 76 (by decide) (by decide)
  have e10 := h2 10 (by decide) (by decide) (by decide)
  refine ⟨?_, WRs_c (fun b b0 b1 => h1 b (by omega) (by omega)) (h2 1 (by decide) (by decide) (by decide)) (h1 71 (by decide) (by decide)) (h1 72 (by decide) (by decide)) hW, ?_, hCr, ?_⟩
  · intro p d p0 p1 d0 d1
    have := hL p d p0 p1 d0 d1
    unfold LDr cGo cBs cGr cQ at *
    rw [e3, e4, e5, e73, e74]
    exact this
  · unfold CRm at *
    rw [e10, e73, e75]
    exact hC
  · rw [e76]; exact hD
theorem so_c {m' : zM} (h : TQ m m') (p d : Int) : so m' w D p d = so m w D p d := by
  unfold so
  rw [h.1 73 (by decide) (by decide)]
theorem ro_c {m' : zM} (h : TQ m m') (x a k : Int) : ro m' D x a k = ro m D x a k := by
  unfold ro cNs
  rw [h.1 72 (by decide) (by decide)]
theorem cSp_q {m' : zM} (h : TQ m m') (a : Int) : cSp m' a = cSp m a := by
  unfold cSp
  rw [h.1 71 (by decide) (by decide), h.1 72 (by decide) (by decide)]
theorem AB_c {H' : Int → Bool} (h : ∀ s, s = p ∨ (64 ≤ s ∧ s < 88) → H' s = H s) (hA : AB H p f x) : AB H' p f x := by
  obtain ⟨a1, a2, a3, a4⟩ := hA
  refine ⟨by rw [h p (Or.inl rfl)]; exact a1, a2, fun a a0 a1 => by rw [h (64 + a) (Or.inr (by omega))]; exact a3 a a0 a1, a4⟩
theorem tz_changeAt (hWK : WK R) (hB : BK R 3) (hT : CTr m w D) (hH : HI w H p) (hA : AB H p (m 70 13) (m 70 14)) : ∃ f x : Int, ev 166 0 [(2, 70), (0, p), (9, 0)] [] R m = some ((9, 0), R, zAB m f x) ∧ AB (cH w D H p) p f x := by
  have hp := hH.1
  obtain ⟨hL, hW, hC, hCr, hD⟩ := hT
  have hT : CTr m w D := ⟨hL, hW, hC, hCr, hD⟩
  have hK3 := hB.1
  have GR := tz_groundOf (m := m) hB hW.1.1.1 p
  simp only [Int.reduceAdd] at GR
  change ev 24 0 [(2, 3), (0, p)] [] R m = some ((0, cGr m p), R, m) at GR
  have cge := (cGr_e hW hp.1).trans (wSt_lo (w := w) hp).symm
  have none : (wSt w p = false ∨ ∀ s, 64 ≤ s → s < 88 → wSt w s = false) → AB (cH w D H p) p (m 70 13) (m 70 14) := by
    intro h
    have cf : cFo w D H p = H p := by
      unfold cFo
      rcases h with h | h
      · rw [h, Bool.false_and, Bool.or_false]
      · have : zany (fun a => H (64 + a) && decide (D (64 + a) = D p)) 24 = false := by
          cases e : zany (fun a => H (64 + a) && decide (D (64 + a) = D p)) 24 with
          | false => rfl
          | true =>
            rw [zany_iff] at e
            obtain ⟨a, a0, a1, e⟩ := e
            simp only [Bool.and_eq_true] at e
            have := (hH.2 (64 + a) (by omega) (by omega) e.1).1
            rw [h (64 + a) (by omega) (by omega)] at this
            cases this
        rw [this, Bool.and_false, Bool.or_false]
    refine AB_c (H := H) (fun s hs => ?_) hA
    unfold cH
    rw [cf]
    by_cases c : s < 64
    · rw [if_pos c]
      rcases hs with e | e
      · rw [if_pos e, e]
      · omega
    · rw [if_neg c]
      rcases hs with e | e
      · omega
      · rcases h with h | h
        · have hpf : H p = false := by
            cases q : H p with
            | false => rfl
            | true => rw [(hH.2 p hp.1 (by omega) q).1] at h; cases h
          rw [hpf, Bool.false_and, Bool.or_false]
        · have : ¬ (wSt w s = true ∧ wPl w s = p ∧ D p = D s + 2) := fun q => by rw [h s e.1 e.2] at q; cases q.1
          rw [decide_eq_false this, Bool.and_false, Bool.or_false]
  by_cases c10 : m 70 10 = 0
  · by_cases g : cGr m p = 1
    · refine ⟨m 70 13, m 70 14, ?_, none (Or.inl ?_)⟩
      · rw [zAB_self]
        simp only [s166_0, s166_1, s166_4, s166_7, s166_8, s166_11, s166_12, s166_15, s166_16, s166_19, s166_20, s166_21, s166_23, s166_25, s166_28, s166_29, s166_30, s166_33, s166_36, s166_37, s166_39, s166_40, s166_41, s166_44, s166_45, s166_46, s166_49, s166_52, s166_53, s166_54, s166_57, s166_60, s166_63, s166_64, s166_66, s166_69, s166_72, s166_73, s166_75, s166_78, s166_79, s166_80, s166_83, s166_84, s166_87, s166_88, s166_89, s166_92, s166_93, s166_95, s166_96, s166_97, s166_100, s166_101, s166_102, s166_105, s166_106, s166_107, s166_110, s166_111, s166_112, s166_113, s166_114, s166_117, s166_120, s166_123, zps_0, zps_1, zps_2, zps_3, zps_9, Option.bind_some, Option.bind_none, Int.reduceEq, Int.reduceNe, Int.reduceLT, Int.reduceLE, Int.reduceNeg, Int.reduceAdd, Int.reduceSub, Int.reduceMul, reduceIte, if_true, if_false, true_and, and_true, false_and, and_false, or_true, true_or, or_false, false_or, not_true_eq_false, not_false_eq_true, ite_not, z_b0, z_b1, z_b01, rWK0 hWK, rWK1 hWK, rWK2 hWK, rWK3 hWK, rWK4 hWK, rWK5 hWK, rWK6 hWK, rWK7 hWK, rWK8 hWK, kWK0, kWK1, kWK2, kWK3, kWK4, kWK5, kWK6, kWK7, kWK8, kWK9, kWK10, kWK11, kWK12, kWK13, kWK14, kWK15, kWK16, hK3, c10, GR, g, if_true, if_false]
      · cases q : wSt w p with
        | false => rfl
        | true => exact absurd g (cge.2 q)
    · have sp : wSt w p = true := cge.1 g
      have hb : w 100 56 ≠ 0 := fun e => (hC.1.2 e) c10
      have T1 : ∀ f x, ev 158 0 [(2, 70), (0, p)] [] R (zAB m f x) = some ((0, D p), R, zAB m f x) := fun f x => by
        have T := tz_timeFrom (m := zAB m f x) hWK p
        rw [if_pos (by omega), zAB_b m f x (by decide), (hD p hp.1 (by omega)).1] at T
        exact T
      have T2 : ∀ f x a, 0 ≤ a → a < 24 → ev 158 0 [(2, 70), (0, 64 + a)] [] R (zAB m f x) = some ((0, D (64 + a)), R, zAB m f x) := fun f x a a0 a1 => by
        have T := tz_timeFrom (m := zAB m f x) hWK (64 + a)
        rw [if_pos (by omega), zAB_b m f x (by decide), (hD (64 + a) (by omega) (by omega)).1] at T
        exact T
      have IA : ∀ f x a, 0 ≤ a → a < 24 → ev 167 0 [(2, 70), (0, a)] [] R (zAB m f x) = some ((0, if ybt x a = true then 1 else 0), R, zAB m f x) := fun f x a a0 a1 => by
        have T := tz_isAboard (m := zAB m f x) hWK (a := a) (by omega)
        rw [zAB_x] at T
        exact T
      have SP : ∀ f x a, ev 152 0 [(2, 70), (0, a)] [] R (zAB m f x) = some ((0, cSp m a), R, zAB m f x) := fun f x a => by
        have T := tz_stopPlot (m := zAB m f x) hWK a
        rw [cSp_q (TQ_zAB m f x)] at T
        exact T
      have L0 : ev 166 0 [(2, 70), (0, p), (9, 0)] [] R m = ev 166 22 [(2, 70), (0, p), (0, 0)] [] R (zAB m (m 70 13) (m 70 14)) := by
        rw [zAB_self]
        simp only [s166_0, s166_1, s166_4, s166_7, s166_8, s166_11, s166_12, s166_15, s166_16, s166_19, s166_20, s166_21, s166_23, s166_25, s166_28, s166_29, s166_30, s166_33, s166_36, s166_37, s166_39, s166_40, s166_41, s166_44, s166_45, s166_46, s166_49, s166_52, s166_53, s166_54, s166_57, s166_60, s166_63, s166_64, s166_66, s166_69, s166_72, s166_73, s166_75, s166_78, s166_79, s166_80, s166_83, s166_84, s166_87, s166_88, s166_89, s166_92, s166_93, s166_95, s166_96, s166_97, s166_100, s166_101, s166_102, s166_105, s166_106, s166_107, s166_110, s166_111, s166_112, s166_113, s166_114, s166_117, s166_120, s166_123, zps_0, zps_1, zps_2, zps_3, zps_9, Option.bind_some, Option.bind_none, Int.reduceEq, Int.reduceNe, Int.reduceLT, Int.reduceLE, Int.reduceNeg, Int.reduceAdd, Int.reduceSub, Int.reduceMul, reduceIte, if_true, if_false, true_and, and_true, false_and, and_false, or_true, true_or, or_false, false_or, not_true_eq_false, not_false_eq_true, ite_not, z_b0, z_b1, z_b01, rWK0 hWK, rWK1 hWK, rWK2 hWK, rWK3 hWK, rWK4 hWK, rWK5 hWK, rWK6 hWK, rWK7 hWK, rWK8 hWK, kWK0, kWK1, kWK2, kWK3, kWK4, kWK5, kWK6, kWK7, kWK8, kWK9, kWK10, kWK11, kWK12, kWK13, kWK14, kWK15, kWK16, hK3, c10, GR, g, if_true, if_false]
      have L1 : ∃ f : Int, ev 166 22 [(2, 70), (0, p), (0, 0)] [] R (zAB m (m 70 13) (m 70 14)) = ev 166 65 [(2, 70), (0, p), (0, 0)] [] R (zAB m f (m 70 14)) ∧ f = if cFo w D H p = true then 1 else 0 := by
        refine zloop (fun r => ∃ f : Int, r = ev 166 65 [(2, 70), (0, p), (0, 0)] [] R (zAB m f (m 70 14)) ∧ f = if cFo w D H p = true then 1 else 0) (fun a (f : Int) => ev 166 22 [(2, 70), (0, p), (0, a)] [] R (zAB m f (m 70 14))) 24 (fun a f => 0 ≤ a ∧ f = if (H p || zany (fun a => H (64 + a) && decide (D (64 + a) = D p)) a.toNat) = true then 1 else 0) ?_ ?_ 0 (m 70 13) (by omega) ⟨by omega, by
          rw [hA.1]
          show _ = if (H p || false) = true then 1 else 0
          rw [Bool.or_false]⟩
        · rintro a f ha ⟨a0, hI⟩ ih
          have c1 : ¬ 24 ≤ a := by omega
          have z1 : zw (64 + a) = 64 + a := zw_i (by omega) (by omega)
          have z : zw (a + 1) = a + 1 := zw_i (by omega) (by omega)
          have stp : zany (fun a => H (64 + a) && decide (D (64 + a) = D p)) (a + 1).toNat = (zany (fun a => H (64 + a) && decide (D (64 + a) = D p)) a.toNat || (H (64 + a) && decide (D (64 + a) = D p))) := zany_step _ a0
          have A := IA f (m 70 14) a a0 ha
          have yb := hA.2.2.1 a a0 ha
          rw [s166_22]
          by_cases y : H (64 + a) = true
          · rw [yb, if_pos y] at A
            by_cases e : D (64 + a) = D p
            · simp only [s166_0, s166_1, s166_4, s166_7, s166_8, s166_11, s166_12, s166_15, s166_16, s166_19, s166_20, s166_21, s166_23, s166_25, s166_28, s166_29, s166_30, s166_33, s166_36, s166_37, s166_39, s166_40, s166_41, s166_44, s166_45, s166_46, s166_49, s166_52, s166_53, s166_54, s166_57, s166_60, s166_63, s166_64, s166_66, s166_69, s166_72, s166_73, s166_75, s166_78, s166_79, s166_80, s166_83, s166_84, s166_87, s166_88, s166_89, s166_92, s166_93, s166_95, s166_96, s166_97, s166_100, s166_101, s166_102, s166_105, s166_106, s166_107, s166_110, s166_111, s166_112, s166_113, s166_114, s166_117, s166_120, s166_123, zps_0, zps_1, zps_2, zps_3, zps_9, Option.bind_some, Option.bind_none, Int.reduceEq, Int.reduceNe, Int.reduceLT, Int.reduceLE, Int.reduceNeg, Int.reduceAdd, Int.reduceSub, Int.reduceMul, reduceIte, if_true, if_false, true_and, and_true, false_and, and_false, or_true, true_or, or_false, false_or, not_true_eq_false, not_false_eq_true, ite_not, z_b0, z_b1, z_b01, rWK0 hWK, rWK1 hWK, rWK2 hWK, rWK3 hWK, rWK4 hWK, rWK5 hWK, rWK6 hWK, rWK7 hWK, rWK8 hWK, kWK0, kWK1, kWK2, kWK3, kWK4, kWK5, kWK6, kWK7, kWK8, kWK9, kWK10, kWK11, kWK12, kWK13, kWK14, kWK15, kWK16, ha, c1, A, z1, T1, T2 _ _ a a0 ha, e, z, if_true, if_false, zAB_13, true_or, or_true]
              refine ih _ ⟨by omega, ?_⟩
              rw [stp, y, decide_eq_true e]
              simp
            · simp only [s166_0, s166_1, s166_4, s166_7, s166_8, s166_11, s166_12, s166_15, s166_16, s166_19, s166_20, s166_21, s166_23, s166_25, s166_28, s166_29, s166_30, s166_33, s166_36, s166_37, s166_39, s166_40, s166_41, s166_44, s166_45, s166_46, s166_49, s166_52, s166_53, s166_54, s166_57, s166_60, s166_63, s166_64, s166_66, s166_69, s166_72, s166_73, s166_75, s166_78, s166_79, s166_80, s166_83, s166_84, s166_87, s166_88, s166_89, s166_92, s166_93, s166_95, s166_96, s166_97, s166_100, s166_101, s166_102, s166_105, s166_106, s166_107, s166_110, s166_111, s166_112, s166_113, s166_114, s166_117, s166_120, s166_123, zps_0, zps_1, zps_2, zps_3, zps_9, Option.bind_some, Option.bind_none, Int.reduceEq, Int.reduceNe, Int.reduceLT, Int.reduceLE, Int.reduceNeg, Int.reduceAdd, Int.reduceSub, Int.reduceMul, reduceIte, if_true, if_false, true_and, and_true, false_and, and_false, or_true, true_or, or_false, false_or, not_true_eq_false, not_false_eq_true, ite_not, z_b0, z_b1, z_b01, rWK0 hWK, rWK1 hWK, rWK2 hWK, rWK3 hWK, rWK4 hWK, rWK5 hWK, rWK6 hWK, rWK7 hWK, rWK8 hWK, kWK0, kWK1, kWK2, kWK3, kWK4, kWK5, kWK6, kWK7, kWK8, kWK9, kWK10, kWK11, kWK12, kWK13, kWK14, kWK15, kWK16, ha, c1, A, z1, T1, T2 _ _ a a0 ha, e, z, if_true, if_false]
              refine ih _ ⟨by omega, ?_⟩
              rw [stp, decide_eq_false e, Bool.and_false, Bool.or_false]
              exact hI
          · rw [yb, if_neg y] at A
            have y' : H (64 + a) = false := by simpa using y
            simp only [s166_0, s166_1, s166_4, s166_7, s166_8, s166_11, s166_12, s166_15, s166_16, s166_19, s166_20, s166_21, s166_23, s166_25, s166_28, s166_29, s166_30, s166_33, s166_36, s166_37, s166_39, s166_40, s166_41, s166_44, s166_45, s166_46, s166_49, s166_52, s166_53, s166_54, s166_57, s166_60, s166_63, s166_64, s166_66, s166_69, s166_72, s166_73, s166_75, s166_78, s166_79, s166_80, s166_83, s166_84, s166_87, s166_88, s166_89, s166_92, s166_93, s166_95, s166_96, s166_97, s166_100, s166_101, s166_102, s166_105, s166_106, s166_107, s166_110, s166_111, s166_112, s166_113, s166_114, s166_117, s166_120, s166_123, zps_0, zps_1, zps_2, zps_3, zps_9, Option.bind_some, Option.bind_none, Int.reduceEq, Int.reduceNe, Int.reduceLT, Int.reduceLE, Int.reduceNeg, Int.reduceAdd, Int.reduceSub, Int.reduceMul, reduceIte, if_true, if_false, true_and, and_true, false_and, and_false, or_true, true_or, or_false, false_or, not_true_eq_false, not_false_eq_true, ite_not, z_b0, z_b1, z_b01, rWK0 hWK, rWK1 hWK, rWK2 hWK, rWK3 hWK, rWK4 hWK, rWK5 hWK, rWK6 hWK, rWK7 hWK, rWK8 hWK, kWK0, kWK1, kWK2, kWK3, kWK4, kWK5, kWK6, kWK7, kWK8, kWK9, kWK10, kWK11, kWK12, kWK13, kWK14, kWK15, kWK16, ha, c1, A, z, if_true, if_false]
            refine ih _ ⟨by omega, ?_⟩
            rw [stp, y', Bool.false_and, Bool.or_false]
            exact hI
        · rintro f ⟨-, hI⟩
          refine ⟨f, ?_, ?_⟩
          · rw [s166_22]
            simp only [s166_0, s166_1, s166_4, s166_7, s166_8, s166_11, s166_12, s166_15, s166_16, s166_19, s166_20, s166_21, s166_23, s166_25, s166_28, s166_29, s166_30, s166_33, s166_36, s166_37, s166_39, s166_40, s166_41, s166_44, s166_45, s166_46, s166_49, s166_52, s166_53, s166_54, s166_57, s166_60, s166_63, s166_64, s166_66, s166_69, s166_72, s166_73, s166_75, s166_78, s166_79, s166_80, s166_83, s166_84, s166_87, s166_88, s166_89, s166_92, s166_93, s166_95, s166_96, s166_97, s166_100, s166_101, s166_102, s166_105, s166_106, s166_107, s166_110, s166_111, s166_112, s166_113, s166_114, s166_117, s166_120, s166_123, zps_0, zps_1, zps_2, zps_3, zps_9, Option.bind_some, Option.bind_none, Int.reduceEq, Int.reduceNe, Int.reduceLT, Int.reduceLE, Int.reduceNeg, Int.reduceAdd, Int.reduceSub, Int.reduceMul, reduceIte, if_true, if_false, true_and, and_true, false_and, and_false, or_true, true_or, or_false, false_or, not_true_eq_false, not_false_eq_true, ite_not, z_b0, z_b1, z_b01, if_true]
          · rw [hI]
            unfold cFo
            rw [sp, Bool.true_and]
            rfl
      obtain ⟨f, e1, hf⟩ := L1
      rw [L0, e1]
      by_cases cf : cFo w D H p = true
      · rw [if_pos cf] at hf
        subst hf
        have L2 : ∃ x : Int, ev 166 65 [(2, 70), (0, p), (0, 0)] [] R (zAB m 1 (m 70 14)) = some ((9, 0), R, zAB m 1 x) ∧ zi32 x ∧ (∀ b, 0 ≤ b → b < 24 → ybt x b = (H (64 + b) || decide (wSt w (64 + b) = true ∧ wPl w (64 + b) = p ∧ D p = D (64 + b) + 2))) ∧ ∀ b, 24 ≤ b → b < 32 → ybt x b = false := by
          refine zloop (fun r => ∃ x : Int, r = some ((9, 0), R, zAB m 1 x) ∧ zi32 x ∧ (∀ b, 0 ≤ b → b < 24 → ybt x b = (H (64 + b) || decide (wSt w (64 + b) = true ∧ wPl w (64 + b) = p ∧ D p = D (64 + b) + 2))) ∧ ∀ b, 24 ≤ b → b < 32 → ybt x b = false) (fun a (x : Int) => ev 166 65 [(2, 70), (0, p), (0, a)] [] R (zAB m 1 x)) 24 (fun a x => 0 ≤ a ∧ zi32 x ∧ (∀ b, 0 ≤ b → b < 24 → ybt x b = (H (64 + b) || decide (b < a ∧ (wSt w (64 + b) = true ∧ wPl w (64 + b) = p ∧ D p = D (64 + b) + 2)))) ∧ ∀ b, 24 ≤ b → b < 32 → ybt x b = false) ?_ ?_ 0 (m 70 14) (by omega) ⟨by omega, hA.2.1, fun b b0 b1 => by
            rw [hA.2.2.1 b b0 b1, decide_eq_false (fun q => by have := q.1; omega), Bool.or_false], hA.2.2.2⟩
          · rintro a x ha ⟨a0, hx, hI, hJ⟩ ih
            have c1 : ¬ 24 ≤ a := by omega
            have z1 : zw (64 + a) = 64 + a := zw_i (by omega) (by omega)
            have z : zw (a + 1) = a + 1 := zw_i (by omega) (by omega)
            have b2 := hD (64 + a) (by omega) (by omega)
            have z2 : zw (D (64 + a) + 2) = D (64 + a) + 2 := zw_i (by omega) (by omega)
            have cs := cSp_e hW hb (s := 64 + a) (p := p) (by omega) hp.1
            rw [show 64 + a - 64 = a by omega] at cs
            have skip : ¬ (wSt w (64 + a) = true ∧ wPl w (64 + a) = p ∧ D p = D (64 + a) + 2) → ∀ b, 0 ≤ b → b < 24 → ybt x b = (H (64 + b) || decide (b < a + 1 ∧ (wSt w (64 + b) = true ∧ wPl w (64 + b) = p ∧ D p = D (64 + b) + 2))) := by
              intro hn b b0 b1
              rw [hI b b0 b1]
              congr 1
              apply decide_eq_decide.mpr
              constructor
              · rintro ⟨q1, q2⟩; exact ⟨by omega, q2⟩
              · rintro ⟨q1, q2⟩
                refine ⟨?_, q2⟩
                by_cases e : b = a
                · rw [e] at q2; exact absurd q2 hn
                · omega
            rw [s166_65]
            by_cases e : cSp m a = p
            · obtain ⟨sa, pa⟩ := cs.1 e
              by_cases d : D p = D (64 + a) + 2
              · have z2' : zw (D (64 + a) + 2) = D p := by rw [z2, d]
                simp only [s166_0, s166_1, s166_4, s166_7, s166_8, s166_11, s166_12, s166_15, s166_16, s166_19, s166_20, s166_21, s166_23, s166_25, s166_28, s166_29, s166_30, s166_33, s166_36, s166_37, s166_39, s166_40, s166_41, s166_44, s166_45, s166_46, s166_49, s166_52, s166_53, s166_54, s166_57, s166_60, s166_63, s166_64, s166_66, s166_69, s166_72, s166_73, s166_75, s166_78, s166_79, s166_80, s166_83, s166_84, s166_87, s166_88, s166_89, s166_92, s166_93, s166_95, s166_96, s166_97, s166_100, s166_101, s166_102, s166_105, s166_106, s166_107, s166_110, s166_111, s166_112, s166_113, s166_114, s166_117, s166_120, s166_123, zps_0, zps_1, zps_2, zps_3, zps_9, Option.bind_some, Option.bind_none, Int.reduceEq, Int.reduceNe, Int.reduceLT, Int.reduceLE, Int.reduceNeg, Int.reduceAdd, Int.reduceSub, Int.reduceMul, reduceIte, if_true, if_false, true_and, and_true, false_and, and_false, or_true, true_or, or_false, false_or, not_true_eq_false, not_false_eq_true, ite_not, z_b0, z_b1, z_b01, rWK0 hWK, rWK1 hWK, rWK2 hWK, rWK3 hWK, rWK4 hWK, rWK5 hWK, rWK6 hWK, rWK7 hWK, rWK8 hWK, kWK0, kWK1, kWK2, kWK3, kWK4, kWK5, kWK6, kWK7, kWK8, kWK9, kWK10, kWK11, kWK12, kWK13, kWK14, kWK15, kWK16, zAB_f, zAB_x, ha, c1, SP, T1, T2 _ _ a a0 ha, z1, z2', e, z, if_true, if_false, zAB_14]
                refine ih _ ⟨by omega, z32_i _ _ _, fun b b0 b1 => ?_, fun b b0 b1 => ?_⟩
                · rw [ybt_set (by omega) (by omega), hI b b0 b1]
                  by_cases eb : b = a
                  · subst eb
                    rw [decide_eq_true (rfl : b = b), Bool.or_true, decide_eq_true (show b < b + 1 ∧ _ from ⟨by omega, sa, pa, d⟩), Bool.or_true]
                  · rw [decide_eq_false eb, Bool.or_false]
                    congr 1
                    apply decide_eq_decide.mpr
                    constructor
                    · rintro ⟨q1, q2⟩; exact ⟨by omega, q2⟩
                    · rintro ⟨q1, q2⟩; exact ⟨by omega, q2⟩
                · rw [ybt_set (by omega) (by omega), hJ b b0 b1, decide_eq_false (by omega)]
                  rfl
              · simp only [s166_0, s166_1, s166_4, s166_7, s166_8, s166_11, s166_12, s166_15, s166_16, s166_19, s166_20, s166_21, s166_23, s166_25, s166_28, s166_29, s166_30, s166_33, s166_36, s166_37, s166_39, s166_40, s166_41, s166_44, s166_45, s166_46, s166_49, s166_52, s166_53, s166_54, s166_57, s166_60, s166_63, s166_64, s166_66, s166_69, s166_72, s166_73, s166_75, s166_78, s166_79, s166_80, s166_83, s166_84, s166_87, s166_88, s166_89, s166_92, s166_93, s166_95, s166_96, s166_97, s166_100, s166_101, s166_102, s166_105, s166_106, s166_107, s166_110, s166_111, s166_112, s166_113, s166_114, s166_117, s166_120, s166_123, zps_0, zps_1, zps_2, zps_3, zps_9, Option.bind_some, Option.bind_none, Int.reduceEq, Int.reduceNe, Int.reduceLT, Int.reduceLE, Int.reduceNeg, Int.reduceAdd, Int.reduceSub, Int.reduceMul, reduceIte, if_true, if_false, true_and, and_true, false_and, and_false, or_true, true_or, or_false, false_or, not_true_eq_false, not_false_eq_true, ite_not, z_b0, z_b1, z_b01, rWK0 hWK, rWK1 hWK, rWK2 hWK, rWK3 hWK, rWK4 hWK, rWK5 hWK, rWK6 hWK, rWK7 hWK, rWK8 hWK, kWK0, kWK1, kWK2, kWK3, kWK4, kWK5, kWK6, kWK7, kWK8, kWK9, kWK10, kWK11, kWK12, kWK13, kWK14, kWK15, kWK16, zAB_f, zAB_x, ha, c1, SP, T1, T2 _ _ a a0 ha, z1, z2, e, d, z, if_true, if_false]
                exact ih _ ⟨by omega, hx, skip (fun q => d q.2.2), hJ⟩
            · simp only [s166_0, s166_1, s166_4, s166_7, s166_8, s166_11, s166_12, s166_15, s166_16, s166_19, s166_20, s166_21, s166_23, s166_25, s166_28, s166_29, s166_30, s166_33, s166_36, s166_37, s166_39, s166_40, s166_41, s166_44, s166_45, s166_46, s166_49, s166_52, s166_53, s166_54, s166_57, s166_60, s166_63, s166_64, s166_66, s166_69, s166_72, s166_73, s166_75, s166_78, s166_79, s166_80, s166_83, s166_84, s166_87, s166_88, s166_89, s166_92, s166_93, s166_95, s166_96, s166_97, s166_100, s166_101, s166_102, s166_105, s166_106, s166_107, s166_110, s166_111, s166_112, s166_113, s166_114, s166_117, s166_120, s166_123, zps_0, zps_1, zps_2, zps_3, zps_9, Option.bind_some, Option.bind_none, Int.reduceEq, Int.reduceNe, Int.reduceLT, Int.reduceLE, Int.reduceNeg, Int.reduceAdd, Int.reduceSub, Int.reduceMul, reduceIte, if_true, if_false, true_and, and_true, false_and, and_false, or_true, true_or, or_false, false_or, not_true_eq_false, not_false_eq_true, ite_not, z_b0, z_b1, z_b01, rWK0 hWK, rWK1 hWK, rWK2 hWK, rWK3 hWK, rWK4 hWK, rWK5 hWK, rWK6 hWK, rWK7 hWK, rWK8 hWK, kWK0, kWK1, kWK2, kWK3, kWK4, kWK5, kWK6, kWK7, kWK8, kWK9, kWK10, kWK11, kWK12, kWK13, kWK14, kWK15, kWK16, zAB_f, zAB_x, ha, c1, SP, e, z, if_true, if_false]
              exact ih _ ⟨by omega, hx, skip (fun q => e (cs.2 ⟨q.1, q.2.1⟩)), hJ⟩
          · rintro x ⟨-, hx, hI, hJ⟩
            refine ⟨x, ?_, hx, fun b b0 b1 => ?_, hJ⟩
            · rw [s166_65]
              simp only [s166_0, s166_1, s166_4, s166_7, s166_8, s166_11, s166_12, s166_15, s166_16, s166_19, s166_20, s166_21, s166_23, s166_25, s166_28, s166_29, s166_30, s166_33, s166_36, s166_37, s166_39, s166_40, s166_41, s166_44, s166_45, s166_46, s166_49, s166_52, s166_53, s166_54, s166_57, s166_60, s166_63, s166_64, s166_66, s166_69, s166_72, s166_73, s166_75, s166_78, s166_79, s166_80, s166_83, s166_84, s166_87, s166_88, s166_89, s166_92, s166_93, s166_95, s166_96, s166_97, s166_100, s166_101, s166_102, s166_105, s166_106, s166_107, s166_110, s166_111, s166_112, s166_113, s166_114, s166_117, s166_120, s166_123, zps_0, zps_1, zps_2, zps_3, zps_9, Option.bind_some, Option.bind_none, Int.reduceEq, Int.reduceNe, Int.reduceLT, Int.reduceLE, Int.reduceNeg, Int.reduceAdd, Int.reduceSub, Int.reduceMul, reduceIte, if_true, if_false, true_and, and_true, false_and, and_false, or_true, true_or, or_false, false_or, not_true_eq_false, not_false_eq_true, ite_not, z_b0, z_b1, z_b01, rWK0 hWK, rWK1 hWK, rWK2 hWK, rWK3 hWK, rWK4 hWK, rWK5 hWK, rWK6 hWK, rWK7 hWK, rWK8 hWK, kWK0, kWK1, kWK2, kWK3, kWK4, kWK5, kWK6, kWK7, kWK8, kWK9, kWK10, kWK11, kWK12, kWK13, kWK14, kWK15, kWK16, zAB_f, if_true, if_false]
            · rw [hI b b0 b1]
              congr 1
              apply decide_eq_decide.mpr
              exact ⟨fun q => q.2, fun q => ⟨b1, q⟩⟩
        obtain ⟨x, e2, x1, x2, x3⟩ := L2
        refine ⟨1, x, e2, ?_, x1, fun a a0 a1 => ?_, x3⟩
        · unfold cH
          rw [if_pos hp.2, if_pos rfl, if_pos cf]
        · rw [x2 a a0 a1]
          unfold cH
          rw [if_neg (by omega), cf, Bool.true_and]
      · rw [if_neg cf] at hf
        subst hf
        refine ⟨0, m 70 14, ?_, ?_, hA.2.1, fun a a0 a1 => ?_, hA.2.2.2⟩
        · rw [s166_65]
          simp only [s166_0, s166_1, s166_4, s166_7, s166_8, s166_11, s166_12, s166_15, s166_16, s166_19, s166_20, s166_21, s166_23, s166_25, s166_28, s166_29, s166_30, s166_33, s166_36, s166_37, s166_39, s166_40, s166_41, s166_44, s166_45, s166_46, s166_49, s166_52, s166_53, s166_54, s166_57, s166_60, s166_63, s166_64, s166_66, s166_69, s166_72, s166_73, s166_75, s166_78, s166_79, s166_80, s166_83, s166_84, s166_87, s166_88, s166_89, s166_92, s166_93, s166_95, s166_96, s166_97, s166_100, s166_101, s166_102, s166_105, s166_106, s166_107, s166_110, s166_111, s166_112, s166_113, s166_114, s166_117, s166_120, s166_123, zps_0, zps_1, zps_2, zps_3, zps_9, Option.bind_some, Option.bind_none, Int.reduceEq, Int.reduceNe, Int.reduceLT, Int.reduceLE, Int.reduceNeg, Int.reduceAdd, Int.reduceSub, Int.reduceMul, reduceIte, if_true, if_false, true_and, and_true, false_and, and_false, or_true, true_or, or_false, false_or, not_true_eq_false, not_false_eq_true, ite_not, z_b0, z_b1, z_b01, rWK0 hWK, rWK1 hWK, rWK2 hWK, rWK3 hWK, rWK4 hWK, rWK5 hWK, rWK6 hWK, rWK7 hWK, rWK8 hWK, kWK0, kWK1, kWK2, kWK3, kWK4, kWK5, kWK6, kWK7, kWK8, kWK9, kWK10, kWK11, kWK12, kWK13, kWK14, kWK15, kWK16, zAB_f, if_true, if_false]
        · unfold cH
          rw [if_pos hp.2, if_pos rfl, if_neg cf]
        · rw [hA.2.2.1 a a0 a1]
          unfold cH
          have : cFo w D H p = false := by simpa using cf
          rw [if_neg (by omega), this, Bool.false_and, Bool.or_false]
  · have w0 : w 100 56 = 0 := hC.1.1 c10
    refine ⟨m 70 13, m 70 14, ?_, none (Or.inr (fun s s0 s1 => ?_))⟩
    · rw [zAB_self]
      simp only [s166_0, s166_1, s166_4, s166_7, s166_8, s166_11, s166_12, s166_15, s166_16, s166_19, s166_20, s166_21, s166_23, s166_25, s166_28, s166_29, s166_30, s166_33, s166_36, s166_37, s166_39, s166_40, s166_41, s166_44, s166_45, s166_46, s166_49, s166_52, s166_53, s166_54, s166_57, s166_60, s166_63, s166_64, s166_66, s166_69, s166_72, s166_73, s166_75, s166_78, s166_79, s166_80, s166_83, s166_84, s166_87, s166_88, s166_89, s166_92, s166_93, s166_95, s166_96, s166_97, s166_100, s166_101, s166_102, s166_105, s166_106, s166_107, s166_110, s166_111, s166_112, s166_113, s166_114, s166_117, s166_120, s166_123, zps_0, zps_1, zps_2, zps_3, zps_9, Option.bind_some, Option.bind_none, Int.reduceEq, Int.reduceNe, Int.reduceLT, Int.reduceLE, Int.reduceNeg, Int.reduceAdd, Int.reduceSub, Int.reduceMul, reduceIte, if_true, if_false, true_and, and_true, false_and, and_false, or_true, true_or, or_false, false_or, not_true_eq_false, not_false_eq_true, ite_not, z_b0, z_b1, z_b01, rWK0 hWK, rWK1 hWK, rWK2 hWK, rWK3 hWK, rWK4 hWK, rWK5 hWK, rWK6 hWK, rWK7 hWK, rWK8 hWK, kWK0, kWK1, kWK2, kWK3, kWK4, kWK5, kWK6, kWK7, kWK8, kWK9, kWK10, kWK11, kWK12, kWK13, kWK14, kWK15, kWK16, c10, if_true, if_false]
    · unfold wSt
      rw [if_neg (by omega), decide_eq_false (show ¬ (w 100 56 ≠ 0 ∧ _) from fun q => q.1 w0), Bool.and_false]
end TRACE2
