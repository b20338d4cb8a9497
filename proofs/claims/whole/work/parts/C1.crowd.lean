/-! the class's crowd -/
def CWd (m : zM) (c : Int → Int) : Prop := ∀ p d, 0 ≤ p → p < 64 → 0 ≤ d → d < 4 → m 75 (4 * p + d) = if cGo m p d = true then c (wEd p (cQ m p d)) else 0
/-- a trip's way as the class has it -/
def TRw (m : zM) (T : zTS) (t : Int) : Prop := m 85 t = T.1 t ∧ ∀ i, 0 ≤ i → i < T.1 t → m 86 (64 * t + i) = T.2 (64 * t + i)
section CROWD
variable {R m w : zM} {T : zTS} {t : Int} {c : Int → Int}
theorem cGo_c {m' : zM} (h3 : m' 3 = m 3) (h4 : m' 4 = m 4) : cGo m' = cGo m ∧ cQ m' = cQ m := by
  have e : cQ m' = cQ m := by funext p d; unfold cQ; rw [h3]
  refine ⟨?_, e⟩
  funext p d
  unfold cGo cGr
  rw [e, h3, h4]
theorem CWd_c {m' : zM} (h3 : m' 3 = m 3) (h4 : m' 4 = m 4) (h75 : m' 75 = m 75) (h : CWd m c) : CWd m' c := by
  obtain ⟨a, b⟩ := cGo_c h3 h4
  unfold CWd at *
  rw [a, b, h75]
  exact h
theorem cGo_r (hV : BV m 3) {p d : Int} (g : cGo m p d = true) : (0 ≤ p ∧ p < 64) ∧ (0 ≤ cQ m p d ∧ cQ m p d < 64) ∧ zfar (m 3 0) (cQ m p d) p = 1 := by
  have h := (cGo_i m p d).1 g
  obtain ⟨r1, r2, r3⟩ := cQ_r hV h.1
  have := hV.2.2.2.2.2.1
  exact ⟨⟨r1.1, by omega⟩, ⟨h.1, by omega⟩, r3⟩
theorem zfar_n {w p q : Int} (h : zfar w p q = 1) : p ≠ q := by intro e; rw [e] at h; unfold zfar zab at h; simp at h
theorem CRg_of (hV : BV m 3) (h : CWd m c) (hc : ∀ e, 0 ≤ e → e < 128 → 0 ≤ c e ∧ c e ≤ 1000) (w : zM) : CRg m (wX w c) 1 := by
  refine ⟨⟨fun _ => wX_56 w c, fun _ => by decide⟩, fun p d p0 p1 d0 d1 g => ?_, fun i i0 i1 => ?_⟩
  · rw [if_pos (by decide), wX_135, h p d p0 p1 d0 d1, if_pos g]
  · have e := h (i / 4) (i % 4) (by omega) (by omega) (by omega) (by omega)
    rw [show 4 * (i / 4) + i % 4 = i by omega] at e
    rw [e]
    split
    next g =>
      obtain ⟨r1, r2, r3⟩ := cGo_r hV g
      have eb := wEd_b r1 r2 (Ne.symm (zfar_n r3))
      exact hc _ eb.1 eb.2
    next => omega
theorem cQ_u (hV : BV m 3) {p d d' : Int} (hd : 0 ≤ d ∧ d < 4) (hd' : 0 ≤ d' ∧ d' < 4) (h0 : 0 ≤ cQ m p d) (e : cQ m p d = cQ m p d') : d = d' := by
  have r := (cQ_r hV h0).1
  unfold cQ at *
  rw [if_pos r] at h0
  rw [if_pos r, if_pos r] at e
  exact zbes_u hV.1 hd hd' h0 e
theorem tz_addCrowdW (hWK : WK R) (hL : LDok m) (hW : WRs m w) (hC : CWd m c) (hc : ∀ e, 0 ≤ e → e < 128 → -2000 ≤ c e ∧ c e ≤ 2000) {p q y : Int} (sp : wSt w p = true) (sq : wSt w q = true) (hp : 0 ≤ p ∧ p < 64) (hq : 0 ≤ q ∧ q < 64) (hf : zfar (w 100 0) p q = 1) (hy : y = 1 ∨ y = -1) : ∃ f : Int → Int, ev 175 0 [(2, 70), (0, p), (0, q), (0, y), (9, 0), (9, 0)] [] R m = some ((9, 0), R, zpr m 75 f) ∧ CWd (zpr m 75 f) (fun e => c e + if e = wEd p q then y else 0) := by
  have hV := hW.1.1.1
  have S1 := tz_sideTo (m := m) hWK hp hq.1
  have S2 := tz_sideTo (m := m) hWK hq hp.1
  obtain ⟨a1, a2, a3, a4⟩ := cSd_ok hL hW sp sq hp hq (by rw [zfar_s]; exact hf)
  obtain ⟨b1, b2, b3, b4⟩ := cSd_ok hL hW sq sp hq hp hf
  have ne := zfar_n hf
  have W1 := tz_within p 0 63 R m
  rw [if_pos (by omega)] at W1
  have W2 := tz_within q 0 63 R m
  rw [if_pos (by omega)] at W2
  generalize cSd m p q = d1 at *
  generalize cSd m q p = d2 at *
  have c1 : ¬ d1 < 0 := by omega
  have c2 : ¬ d2 < 0 := by omega
  have c3 : 0 ≤ d1 := a1.1
  have c4 : 0 ≤ d2 := b1.1
  have z1 : zw (p * 4) = p * 4 := zw_i (by omega) (by omega)
  have z2 : zw (p * 4 + d1) = 4 * p + d1 := by rw [zw_i (by omega) (by omega)]; omega
  have z3 : zw (q * 4) = q * 4 := zw_i (by omega) (by omega)
  have z4 : zw (q * 4 + d2) = 4 * q + d2 := by rw [zw_i (by omega) (by omega)]; omega
  have e1 : 0 ≤ 4 * p + d1 ∧ 4 * p + d1 < 256 := by omega
  have e2 : 0 ≤ 4 * q + d2 ∧ 4 * q + d2 < 256 := by omega
  have v1 := hC p d1 hp.1 hp.2 a1.1 a1.2
  rw [if_pos a3, a4] at v1
  have v2 := hC q d2 hq.1 hq.2 b1.1 b1.2
  rw [if_pos b3, b4, wEd_s (Ne.symm ne)] at v2
  have eb := wEd_b hp hq ne
  have cb := hc _ eb.1 eb.2
  have n12 : 4 * q + d2 ≠ 4 * p + d1 := by omega
  have z5 : zw (m 75 (4 * p + d1) + y) = m 75 (4 * p + d1) + y := zw_i (by omega) (by omega)
  have z6 : zw (m 75 (4 * q + d2) + y) = m 75 (4 * q + d2) + y := zw_i (by omega) (by omega)
  have z6' : zw (zrw (m 75) (4 * p + d1) (m 75 (4 * p + d1) + y) (4 * q + d2) + y) = m 75 (4 * q + d2) + y := by rw [zrw_ne n12]; exact z6
  refine ⟨zrw (zrw (m 75) (4 * p + d1) (m 75 (4 * p + d1) + y)) (4 * q + d2) (m 75 (4 * q + d2) + y), ?_, fun p' d' p0 p1 d0 d1' => ?_⟩
  · simp only [s175_0, s175_1, s175_2, s175_3, s175_6, s175_8, s175_9, s175_10, s175_11, s175_14, s175_16, s175_18, s175_21, s175_23, s175_26, s175_27, s175_28, s175_30, s175_33, s175_36, s175_37, s175_38, s175_40, s175_43, s175_46, s175_47, s175_48, s175_51, s175_52, s175_53, s175_54, s175_56, s175_57, s175_58, s175_59, s175_60, s175_61, s175_62, s175_63, s175_66, s175_67, s175_68, s175_69, s175_71, s175_72, s175_73, s175_74, s175_75, s175_76, s175_77, zps_0, zps_1, zps_2, zps_3, zps_9, Option.bind_some, Option.bind_none, Int.reduceEq, Int.reduceNe, Int.reduceLT, Int.reduceLE, Int.reduceNeg, Int.reduceAdd, Int.reduceSub, Int.reduceMul, reduceIte, if_true, if_false, true_and, and_true, false_and, and_false, or_true, true_or, or_false, false_or, not_true_eq_false, not_false_eq_true, ite_not, z_b0, z_b1, z_b01, rWK0 hWK, rWK1 hWK, rWK2 hWK, rWK3 hWK, rWK4 hWK, rWK5 hWK, rWK6 hWK, rWK7 hWK, rWK8 hWK, kWK0, kWK1, kWK2, kWK3, kWK4, kWK5, kWK6, kWK7, kWK8, kWK9, kWK10, kWK11, kWK12, kWK13, kWK14, kWK15, kWK16, S1, S2, W1, W2, c1, c2, c3, c4, z1, z2, z3, z4, z5, z6', e1, e2, and_self, if_true, if_false, zup_zpr, zpr_at, zpr_zpr]
  · obtain ⟨g1, g2⟩ := cGo_c (m := m) (m' := zpr m 75 (zrw (zrw (m 75) (4 * p + d1) (m 75 (4 * p + d1) + y)) (4 * q + d2) (m 75 (4 * q + d2) + y))) (zpr_ne (by decide)) (zpr_ne (by decide))
    rw [g1, g2, zpr_at]
    by_cases i2 : 4 * p' + d' = 4 * q + d2
    · have ep : p' = q := by omega
      have ed : d' = d2 := by omega
      rw [ep, ed, zrw_at, if_pos b3, b4, wEd_s (Ne.symm ne)]
      dsimp only
      rw [if_pos rfl, v2]
    · rw [zrw_ne i2]
      by_cases i1 : 4 * p' + d' = 4 * p + d1
      · have ep : p' = p := by omega
        have ed : d' = d1 := by omega
        rw [ep, ed, zrw_at, if_pos a3, a4]
        dsimp only
        rw [if_pos rfl, v1]
      · rw [zrw_ne i1, hC p' d' p0 p1 d0 d1']
        by_cases g : cGo m p' d' = true
        · rw [if_pos g, if_pos g]
          dsimp only
          rw [if_neg, Int.add_zero]
          intro e
          obtain ⟨r1, r2, r3⟩ := cGo_r hV g
          have h0 := ((cGo_i m p' d').1 g).1
          have e30 : m 3 0 = w 100 0 := hW.1.2.2.1
          rw [zfar_s, e30] at r3
          have hw : 1 ≤ w 100 0 ∧ w 100 0 ≤ 8 := by rw [← e30]; exact ⟨hV.1, hV.2.1⟩
          rcases wEd_inj hw hp hq r1 r2 hf r3 e.symm with ⟨q1, q2⟩ | ⟨q1, q2⟩
          · subst q1
            have := cQ_u hV ⟨d0, d1'⟩ a1 h0 (by rw [q2, a4])
            omega
          · subst q1
            have := cQ_u hV ⟨d0, d1'⟩ b1 h0 (by rw [q2, b4])
            omega
        · rw [if_neg g, if_neg g]
theorem tz_timeBeside (hWK : WK R) (hL : LDok m) (hW : WRs m w) (hC : CRm m w) (h10 : m 70 10 = 1) {p q : Int} (sp : wSt w p = true) (sq : wSt w q = true) (hp : 0 ≤ p ∧ p < 64) (hq : 0 ≤ q ∧ q < 64) (hf : zfar (w 100 0) p q = 1) : ev 177 0 [(2, 70), (0, p), (0, q)] [] R m = some ((0, wTk w p q), R, m) := by
  have S1 := tz_sideTo (m := m) hWK hp hq.1
  obtain ⟨a1, a2, a3, a4⟩ := cSd_ok hL hW sp sq hp hq (by rw [zfar_s]; exact hf)
  generalize cSd m p q = d1 at *
  have ST := tz_stepTime (m := m) hWK hp a1 (cBb hL hW hp a1) (hC.2.2 (4 * p + d1) (by omega) (by omega))
  have e := cSt_t hL hW hC hp a1 (by rw [a2]; exact hq.1)
  rw [a2, wTk_s hq.2 hp.2] at e
  rw [e] at ST
  simp only [s177_0, s177_1, s177_2, s177_3, s177_4, s177_5, s177_8, s177_11, zps_0, zps_1, zps_2, zps_3, zps_9, Option.bind_some, Option.bind_none, Int.reduceEq, Int.reduceNe, Int.reduceLT, Int.reduceLE, Int.reduceNeg, Int.reduceAdd, Int.reduceSub, Int.reduceMul, reduceIte, if_true, if_false, true_and, and_true, false_and, and_false, or_true, true_or, or_false, false_or, not_true_eq_false, not_false_eq_true, ite_not, z_b0, z_b1, z_b01, rWK0 hWK, rWK1 hWK, rWK2 hWK, rWK3 hWK, rWK4 hWK, rWK5 hWK, rWK6 hWK, rWK7 hWK, rWK8 hWK, kWK0, kWK1, kWK2, kWK3, kWK4, kWK5, kWK6, kWK7, kWK8, kWK9, kWK10, kWK11, kWK12, kWK13, kWK14, kWK15, kWK16, S1, ST]
end CROWD
