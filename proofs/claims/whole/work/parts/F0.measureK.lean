/-! on foot among any crowd: what can be reached does not depend on it -/
def kT (w : zM) (c : Int → Int) (s p : Int) : Int := if ((0 ≤ s ∧ s < 64) ∧ 0 ≤ p ∧ p < 64) ∧ zfar (w 100 0) s p = 1 then (if w 101 s = 2 ∧ w 101 p = 2 then 1 else 3) + zab (w 102 s - w 102 p) + 2 * c (4 * p + zfst (fun d => decide (zbes (w 100 0) (w 100 1) p d = s)) 4) else 1000000
section MEASUREK
variable {R m w : zM} {c : Int → Int}
theorem kT_t (hL : LDok m) (hW : WRs m w) {p d : Int} (hp : 0 ≤ p ∧ p < 64) (hd : 0 ≤ d ∧ d < 4) (h : 0 ≤ m 73 (4 * p + d)) : m 74 (4 * p + d) + 2 * m 75 (4 * p + d) = kT w (m 75) (m 73 (4 * p + d)) p := by
  obtain ⟨q1, q2, q3, q4, q5⟩ := cSt_e hL hW hp hd h
  have hV := hW.1.1.1
  have e0 : m 3 0 = w 100 0 := hW.1.2.2.1
  have e1 : m 3 1 = w 100 1 := hW.1.2.2.2.1
  have l1 := (hL p d hp.1 hp.2 hd.1 hd.2).1
  by_cases g : cGo m p d = true
  · rw [if_pos g] at l1
    have r := (cQ_r hV (((cGo_i m p d).1 g).1)).1
    have z : zbes (w 100 0) (w 100 1) p d = m 73 (4 * p + d) := by
      rw [l1]
      unfold cQ
      rw [if_pos r, e0, e1]
    have sd : zfst (fun d' => decide (zbes (w 100 0) (w 100 1) p d' = m 73 (4 * p + d))) 4 = d := by
      refine zfst_is hd.1 (by omega) (decide_eq_true z) (fun j j0 j1 => decide_eq_false (fun q => ?_))
      have := zbes_u (by rw [← e0]; exact hV.1) hd ⟨j0, by omega⟩ (by rw [z]; exact h) (z.trans q.symm)
      omega
    unfold kT
    rw [if_pos ⟨⟨⟨h, q1⟩, hp⟩, q4⟩, sd, q5]
  · rw [if_neg g] at l1
    omega
theorem kT_b (hV : MV w) (h56 : w 100 56 = 0) (hcr : ∀ i, 0 ≤ i → i < 256 → 0 ≤ c i ∧ c i ≤ 1000) {s p : Int} (ss : wSt w s = true) (sp : wSt w p = true) : 1 ≤ kT w c s p ∧ (kT w c s p < 1000000 ↔ zfar (w 100 0) s p = 1) ∧ (kT w c s p < 1000000 → kT w c s p ≤ 2020) := by
  have fs := wSt_f h56 ss
  have fp := wSt_f h56 sp
  have s1 := (wSt_lo fs).1 ss
  have p1 := (wSt_lo fp).1 sp
  unfold kT
  by_cases f : zfar (w 100 0) s p = 1
  · rw [if_pos ⟨⟨fs, fp⟩, f⟩]
    obtain ⟨d, d0, d1, e⟩ := zbes_a (w := w 100 0) (h := w 100 1) hV.1 hV.2.1 ⟨fp.1, p1.1⟩ ⟨fs.1, s1.1⟩ f
    have hh1 := (hV.2.2 s fs.1 s1.1).2.1
    have hh2 := (hV.2.2 p fp.1 p1.1).2.1
    rcases zfst_ok (fun d => decide (zbes (w 100 0) (w 100 1) p d = s)) 4 with ⟨-, q⟩ | ⟨q0, q1, -⟩
    · have := q d d0 (by omega)
      rw [decide_eq_true e] at this; cases this
    · generalize zfst (fun d => decide (zbes (w 100 0) (w 100 1) p d = s)) 4 = k at *
      have cr := hcr (4 * p + k) (by omega) (by omega)
      have za : 0 ≤ zab (w 102 s - w 102 p) ∧ zab (w 102 s - w 102 p) ≤ 9 := by unfold zab; split <;> omega
      refine ⟨by split <;> omega, ⟨fun _ => f, fun _ => by split <;> omega⟩, fun _ => by split <;> omega⟩
  · rw [if_neg (fun q => f q.2)]
    exact ⟨by decide, ⟨fun q => by omega, fun q => absurd q f⟩, fun q => by omega⟩
theorem kT_co (hV : MV w) (h56 : w 100 56 = 0) (hcr : ∀ i, 0 ≤ i → i < 256 → 0 ≤ c i ∧ c i ≤ 1000) : zCo (wSt w) (kT w c) 2020 := by
  refine ⟨fun s t _ _ _ _ ss st => ?_, by decide, by decide, fun s hs => ?_⟩
  · have := kT_b hV h56 hcr ss st
    exact ⟨by omega, this.2.2⟩
  · have := wSt_f h56 hs
    omega
theorem tz_reachPlotK (hWK : WK R) (hL : LDok m) (hW : WRs m w) (h56 : w 100 56 = 0) (h10 : m 70 10 = 1) (hcr : ∀ i, 0 ≤ i → i < 256 → 0 ≤ m 75 i ∧ m 75 i ≤ 1000) {p : Int} (hp : 0 ≤ p ∧ p < 64) (sp : wSt w p = true) (hT : 0 ≤ m 76 p ∧ m 76 p ≤ 200000) : ∃ f : Int → Int, ev 157 0 [(2, 70), (0, p), (9, 0), (9, 0)] [] R m = some ((9, 0), R, zpr m 76 f) ∧ ∀ s, 0 ≤ s → s < 88 → f s = if wSt w s = true ∧ kT w (m 75) s p < 1000000 ∧ m 76 p + kT w (m 75) s p < m 76 s then m 76 p + kT w (m 75) s p else m 76 s := by
  obtain ⟨T, hTT⟩ : ∃ T, m 76 p = T := ⟨_, rfl⟩
  rw [hTT] at hT ⊢
  have TF := tz_timeFrom (m := m) hWK p
  rw [if_pos (by omega), hTT] at TF
  have L0 : ev 157 0 [(2, 70), (0, p), (9, 0), (9, 0)] [] R m = ev 157 8 [(2, 70), (0, p), (0, T), (0, 0)] [] R (zpr m 76 (m 76)) := by
    rw [zpr_self]
    simp only [s157_0, s157_1, s157_2, s157_5, s157_6, s157_7, s157_9, s157_10, s157_13, s157_14, s157_15, s157_16, s157_17, s157_20, s157_21, s157_22, s157_23, s157_24, s157_27, s157_28, s157_31, s157_34, s157_37, s157_38, s157_41, s157_44, s157_45, s157_46, s157_48, s157_49, s157_52, s157_54, s157_55, s157_58, s157_59, s157_60, s157_63, s157_64, s157_67, s157_68, s157_70, s157_71, s157_72, s157_73, s157_76, s157_79, s157_82, zps_0, zps_1, zps_2, zps_3, zps_9, Option.bind_some, Option.bind_none, Int.reduceEq, Int.reduceNe, Int.reduceLT, Int.reduceLE, Int.reduceNeg, Int.reduceAdd, Int.reduceSub, Int.reduceMul, reduceIte, if_true, if_false, true_and, and_true, false_and, and_false, or_true, true_or, or_false, false_or, not_true_eq_false, not_false_eq_true, ite_not, z_b0, z_b1, z_b01, rWK0 hWK, rWK1 hWK, rWK2 hWK, rWK3 hWK, rWK4 hWK, rWK5 hWK, rWK6 hWK, rWK7 hWK, rWK8 hWK, kWK0, kWK1, kWK2, kWK3, kWK4, kWK5, kWK6, kWK7, kWK8, kWK9, kWK10, kWK11, kWK12, kWK13, kWK14, kWK15, kWK16, TF]
  rw [L0]
  clear L0
  -- steps
  have g : ∀ (f : Int → Int) b, b ≠ 76 → zpr m 76 f b = m b := fun f b h => zpr_ne h
  have SE : ∀ (f : Int → Int) d, 0 ≤ d → d < 4 → ev 159 0 [(2, 70), (0, p), (0, d)] [] R (zpr m 76 f) = some ((0, m 73 (4 * p + d)), R, zpr m 76 f) := fun f d d0 d1 => by
    rw [tz_stepEnd hWK hp ⟨d0, d1⟩, g f 73 (by decide)]
  have bb : ∀ d, 0 ≤ d → d < 4 → (0 ≤ m 74 (4 * p + d) ∧ m 74 (4 * p + d) ≤ 1000000) := by
    intro d d0 d1
    obtain ⟨l1, l2⟩ := hL p d hp.1 hp.2 d0 d1
    by_cases c : 0 ≤ m 73 (4 * p + d)
    · obtain ⟨q1, q2, q3, q4, q5⟩ := cSt_e hL hW hp ⟨d0, d1⟩ c
      have hV := hW.1.2.1
      have s1 := (wSt_lo ⟨c, q1⟩).1 q2
      have p1 := (wSt_lo hp).1 q3
      have h1 := (hV.2.2 _ c s1.1).2.1
      have h2 := (hV.2.2 p hp.1 p1.1).2.1
      rw [q5]
      unfold zab
      (repeat' split) <;> omega
    · by_cases g : cGo m p d = true
      · rw [if_pos g] at l1
        have := ((cGo_i m p d).1 g).1
        omega
      · rw [if_neg g] at l2
        rw [l2]; omega
  have ST : ∀ (f : Int → Int) d, 0 ≤ d → d < 4 → ∃ v, ev 160 0 [(2, 70), (0, p), (0, d), (9, 0)] [] R (zpr m 76 f) = some ((0, v), R, zpr m 76 f) ∧ (0 ≤ v ∧ v ≤ 1002000) ∧ (0 ≤ m 73 (4 * p + d) → v = kT w (m 75) (m 73 (4 * p + d)) p) := by
    intro f d d0 d1
    have b1 := bb d d0 d1
    have b2 := hcr (4 * p + d) (by omega) (by omega)
    have S := tz_stepTime (R := R) (m := zpr m 76 f) hWK hp ⟨d0, d1⟩ (by rw [g f 74 (by decide)]; exact b1) (by rw [g f 75 (by decide)]; exact b2)
    rw [g f 70 (by decide), g f 74 (by decide), g f 75 (by decide)] at S
    rw [h10, if_pos (by decide)] at S
    exact ⟨_, S, by omega, fun h => kT_t hL hW hp ⟨d0, d1⟩ h⟩
  have SH : ∀ (f : Int → Int) s t, ev 161 0 [(2, 70), (0, s), (0, t)] [] R (zpr m 76 f) = some ((9, 0), R, zpr m 76 (if (0 ≤ s ∧ s < 88) ∧ t < f s then zrw f s t else f)) := fun f s t => by
    rw [tz_shorten hWK, zpr_at]
    by_cases c : (0 ≤ s ∧ s < 88) ∧ t < f s
    · rw [if_pos c, if_pos c, zpr_zpr]
    · rw [if_neg c, if_neg c]
  have loop1 : ∃ f : Int → Int, ev 157 8 [(2, 70), (0, p), (0, T), (0, 0)] [] R (zpr m 76 (m 76)) = ev 157 8 [(2, 70), (0, p), (0, T), (0, 4)] [] R (zpr m 76 f) ∧ ∀ s, 0 ≤ s → s < 88 → f s = if zany (fun d => decide (m 73 (4 * p + d) = s)) (4 : Int).toNat = true ∧ T + kT w (m 75) s p < m 76 s then T + kT w (m 75) s p else m 76 s := by
    refine zloop (fun r => ∃ f : Int → Int, r = ev 157 8 [(2, 70), (0, p), (0, T), (0, 4)] [] R (zpr m 76 f) ∧ ∀ s, 0 ≤ s → s < 88 → f s = if zany (fun d => decide (m 73 (4 * p + d) = s)) (4 : Int).toNat = true ∧ T + kT w (m 75) s p < m 76 s then T + kT w (m 75) s p else m 76 s) (fun d (f : Int → Int) => ev 157 8 [(2, 70), (0, p), (0, T), (0, d)] [] R (zpr m 76 f)) 4 (fun d f => 0 ≤ d ∧ ∀ s, 0 ≤ s → s < 88 → f s = if zany (fun d => decide (m 73 (4 * p + d) = s)) d.toNat = true ∧ T + kT w (m 75) s p < m 76 s then T + kT w (m 75) s p else m 76 s) ?_ ?_ 0 (m 76) (by omega) ⟨by omega, fun s s0 s1 => ?_⟩
    · intro d f hd ⟨d0, hI⟩ ih
      obtain ⟨v, e2, v1, v2⟩ := ST f d d0 hd
      have c1 : ¬ 4 ≤ d := by omega
      have zv : zw (T + v) = T + v := zw_i (by omega) (by omega)
      have zd : zw (d + 1) = d + 1 := zw_i (by omega) (by omega)
      rw [s157_8]
      simp only [s157_0, s157_1, s157_2, s157_5, s157_6, s157_7, s157_9, s157_10, s157_13, s157_14, s157_15, s157_16, s157_17, s157_20, s157_21, s157_22, s157_23, s157_24, s157_27, s157_28, s157_31, s157_34, s157_37, s157_38, s157_41, s157_44, s157_45, s157_46, s157_48, s157_49, s157_52, s157_54, s157_55, s157_58, s157_59, s157_60, s157_63, s157_64, s157_67, s157_68, s157_70, s157_71, s157_72, s157_73, s157_76, s157_79, s157_82, zps_0, zps_1, zps_2, zps_3, zps_9, Option.bind_some, Option.bind_none, Int.reduceEq, Int.reduceNe, Int.reduceLT, Int.reduceLE, Int.reduceNeg, Int.reduceAdd, Int.reduceSub, Int.reduceMul, reduceIte, if_true, if_false, true_and, and_true, false_and, and_false, or_true, true_or, or_false, false_or, not_true_eq_false, not_false_eq_true, ite_not, z_b0, z_b1, z_b01, rWK0 hWK, rWK1 hWK, rWK2 hWK, rWK3 hWK, rWK4 hWK, rWK5 hWK, rWK6 hWK, rWK7 hWK, rWK8 hWK, kWK0, kWK1, kWK2, kWK3, kWK4, kWK5, kWK6, kWK7, kWK8, kWK9, kWK10, kWK11, kWK12, kWK13, kWK14, kWK15, kWK16, hd, c1, SE f d d0 hd, e2, zv, SH, zd, if_true, if_false]
      refine ih _ ⟨by omega, fun s s0 s1 => ?_⟩
      have hs := hI s s0 s1
      rw [zany_step _ d0]
      by_cases q : m 73 (4 * p + d) = s
      · have qv := v2 (by omega)
        rw [q] at qv ⊢
        rw [qv, decide_eq_true rfl, Bool.or_true]
        by_cases a : T + kT w (m 75) s p < m 76 s
        · rw [if_pos (show true = true ∧ T + kT w (m 75) s p < m 76 s from ⟨rfl, a⟩)]
          by_cases b : (0 ≤ s ∧ s < 88) ∧ T + kT w (m 75) s p < f s
          · rw [if_pos b, zrw_at]
          · rw [if_neg b, hs]
            by_cases z : zany (fun d => decide (m 73 (4 * p + d) = s)) d.toNat = true
            · rw [if_pos ⟨z, a⟩]
            · rw [if_neg (fun q => z q.1)] at hs
              exact absurd ⟨⟨s0, s1⟩, by rw [hs]; exact a⟩ b
        · rw [if_neg (show ¬ (true = true ∧ T + kT w (m 75) s p < m 76 s) from fun q => a q.2)]
          rw [if_neg (fun q => a q.2)] at hs
          rw [if_neg (fun b => a (by rw [hs] at b; exact b.2)), hs]
      · rw [decide_eq_false q, Bool.or_false, ← hs]
        split
        next => rw [zrw_ne (fun e => q e.symm)]
        next => rfl
    · rintro f ⟨-, hI⟩
      exact ⟨f, rfl, hI⟩
    · rw [if_neg (fun q => by have := q.1; cases this)]
  obtain ⟨f1, e1, h1⟩ := loop1
  refine ⟨f1, ?_, fun s s0 s1 => ?_⟩
  · rw [e1, s157_8]
    have f10 : zpr m 76 f1 70 10 = 1 := by rw [zpr_ne (by decide), h10]
    simp only [s157_0, s157_1, s157_2, s157_5, s157_6, s157_7, s157_9, s157_10, s157_13, s157_14, s157_15, s157_16, s157_17, s157_20, s157_21, s157_22, s157_23, s157_24, s157_27, s157_28, s157_31, s157_34, s157_37, s157_38, s157_41, s157_44, s157_45, s157_46, s157_48, s157_49, s157_52, s157_54, s157_55, s157_58, s157_59, s157_60, s157_63, s157_64, s157_67, s157_68, s157_70, s157_71, s157_72, s157_73, s157_76, s157_79, s157_82, zps_0, zps_1, zps_2, zps_3, zps_9, Option.bind_some, Option.bind_none, Int.reduceEq, Int.reduceNe, Int.reduceLT, Int.reduceLE, Int.reduceNeg, Int.reduceAdd, Int.reduceSub, Int.reduceMul, reduceIte, if_true, if_false, true_and, and_true, false_and, and_false, or_true, true_or, or_false, false_or, not_true_eq_false, not_false_eq_true, ite_not, z_b0, z_b1, z_b01, rWK0 hWK, rWK1 hWK, rWK2 hWK, rWK3 hWK, rWK4 hWK, rWK5 hWK, rWK6 hWK, rWK7 hWK, rWK8 hWK, kWK0, kWK1, kWK2, kWK3, kWK4, kWK5, kWK6, kWK7, kWK8, kWK9, kWK10, kWK11, kWK12, kWK13, kWK14, kWK15, kWK16, Int.le_refl, f10, if_true, if_false]
  · rw [h1 s s0 s1]
    have e : (zany (fun d => decide (m 73 (4 * p + d) = s)) (4 : Int).toNat = true) ↔ (wSt w s = true ∧ kT w (m 75) s p < 1000000) := by
      rw [zany_iff]
      constructor
      · rintro ⟨d, d0, d1, hd⟩
        have hd := of_decide_eq_true hd
        have d1 : d < 4 := by have : ((4 : Int).toNat : Int) = 4 := rfl; omega
        obtain ⟨q1, q2, q3, q4, q5⟩ := cSt_e hL hW hp ⟨d0, d1⟩ (by omega)
        rw [hd] at q2 q4
        exact ⟨q2, ((kT_b hW.1.2.1 h56 hcr q2 sp).2.1).2 q4⟩
      · rintro ⟨a, b⟩
        have f := ((kT_b hW.1.2.1 h56 hcr a sp).2.1).1 b
        obtain ⟨d, d0, d1, e⟩ := cSt_a hL hW hp (wSt_f h56 a) sp a f
        exact ⟨d, d0, by have : ((4 : Int).toNat : Int) = 4 := rfl; omega, decide_eq_true e⟩
    by_cases a : T + kT w (m 75) s p < m 76 s
    · by_cases b : wSt w s = true ∧ kT w (m 75) s p < 1000000
      · rw [if_pos ⟨e.2 b, a⟩, if_pos ⟨b.1, b.2, a⟩]
      · rw [if_neg (fun q => b (e.1 q.1)), if_neg (fun q => b ⟨q.1, q.2.1⟩)]
    · rw [if_neg (fun q => a q.2), if_neg (fun q => a q.2.2)]
theorem tz_measureK (hWK : WK R) (hB : BK R 3) (hW : WRs m w) (h56 : w 100 56 = 0) (hcr : ∀ i, 0 ≤ i → i < 256 → 0 ≤ m 75 i ∧ m 75 i ≤ 1000) (hL : m 70 7 = m 3 3 → LDok m) {to f : Int} (hto : 0 ≤ to ∧ to < 64) (hf1 : f = 1) : ∃ m' : zM, ev 153 0 [(2, 70), (0, to), (0, f), (9, 0), (9, 0)] [] R m = some ((9, 0), R, m') ∧ (∀ b, b ≠ 70 → b ≠ 73 → b ≠ 74 → b ≠ 76 → b ≠ 77 → m' b = m b) ∧ (∀ k, k ≠ 7 → k ≠ 10 → m' 70 k = m 70 k) ∧ LDok m' ∧ m' 70 7 = m 3 3 ∧ m' 70 10 = f ∧ ∃ Q, zdf (wSt w) (kT w (m 75)) to Q ∧ ∀ s, 0 ≤ s → s < 88 → m' 76 s = Q.1 s := by
  have hf : f = 0 ∨ f = 1 := Or.inr hf1
  have hV := hW.1.1.1
  have hco := kT_co hW.1.2.1 h56 hcr
  have hK3 := hB.1
  obtain ⟨m1, a1, l1, l7, b1, k1⟩ := tz_layOut (R := R) (m := zpr m 70 (zrw (m 70) 10 f)) hWK hB (by
    unfold BV at *
    simp only [Int.reduceAdd] at *
    simp (disch := decide) only [zpr_ne]
    exact hV) (fun e => by
    rw [zpr_at, zrw_ne (by decide), zpr_ne (by decide)] at e
    have h := hL e
    intro p d p0 p1 d0 d1
    have := h p d p0 p1 d0 d1
    unfold LDr cGo cBs at *
    simp only [cQ, cGr] at *
    simp (disch := decide) only [zpr_ne]
    exact this)
  have g1 : ∀ b, b ≠ 70 → b ≠ 73 → b ≠ 74 → m1 b = m b := fun b q1 q2 q3 => by rw [b1 b q1 q2 q3, zpr_ne q1]
  have F1 := tz_fill (R := R) (m := m1) (a := 76) (n := 88) 1000000 (by decide +kernel) (by decide +kernel) (by omega) (by omega)
  have F2 := fun f => tz_fill (R := R) (m := zpr m1 76 f) (a := 77) (n := 88) 0 (by decide +kernel) (by decide +kernel) (by omega) (by omega)
  obtain ⟨m2, hm2⟩ : ∃ m2, zpr (zpr m1 76 (zfll (m1 76) 88 1000000)) 77 (zfll (zpr m1 76 (zfll (m1 76) 88 1000000) 77) 88 0) = m2 := ⟨_, rfl⟩
  have F2 := F2 (zfll (m1 76) 88 1000000)
  rw [hm2] at F2
  have g2 : ∀ b, b ≠ 76 → b ≠ 77 → m2 b = m1 b := fun b q1 q2 => by rw [← hm2, zpr_ne q2, zpr_ne q1]
  have t2 : ∀ s, 0 ≤ s → s < 88 → m2 76 s = 1000000 ∧ m2 77 s = 0 := by
    intro s s0 s1
    rw [← hm2]
    constructor
    · rw [zpr_ne (by decide), zpr_at]; unfold zfll; rw [if_pos ⟨s0, s1⟩]
    · rw [zpr_at]; unfold zfll; rw [if_pos ⟨s0, s1⟩]
  have gg : ∀ b, b ≠ 70 → b ≠ 73 → b ≠ 74 → b ≠ 76 → b ≠ 77 → m2 b = m b := fun b q1 q2 q3 q4 q5 => (g2 b q4 q5).trans (g1 b q1 q2 q3)
  have k2 : ∀ k, k ≠ 7 → k ≠ 10 → m2 70 k = m 70 k := fun k q1 q2 => by rw [g2 70 (by decide) (by decide), k1 k q1, zpr_at, zrw_ne q2]
  have f10 : m2 70 10 = f := by rw [g2 70 (by decide) (by decide), k1 10 (by decide), zpr_at, zrw_at]
  have f7 : m2 70 7 = m 3 3 := by rw [g2 70 (by decide) (by decide), l7, zpr_ne (by decide)]
  have LD : ∀ m' : zM, m' 3 = m 3 → m' 4 = m 4 → m' 5 = m 5 → m' 73 = m1 73 → m' 74 = m1 74 → LDok m' := by
    intro m' e3 e4 e5 e73 e74 p d p0 p1 d0 d1
    have := l1 p d p0 p1 d0 d1
    unfold LDr cGo cBs cGr cQ at *
    rw [e3, e4, e5, e73, e74]
    rw [g1 3 (by decide) (by decide) (by decide), g1 4 (by decide) (by decide) (by decide), g1 5 (by decide) (by decide) (by decide)] at this
    exact this
  have WI := tz_within to 0 63 R m2
  rw [if_pos (by omega)] at WI
  have hV2 : ∀ m' : zM, (∀ b, b ≠ 70 → b ≠ 73 → b ≠ 74 → b ≠ 76 → b ≠ 77 → m' b = m b) → BV m' 3 := by
    intro m' h
    unfold BV at *
    simp only [Int.reduceAdd] at *
    rw [h 3 (by decide) (by decide) (by decide) (by decide) (by decide), h 4 (by decide) (by decide) (by decide) (by decide) (by decide), h 5 (by decide) (by decide) (by decide) (by decide) (by decide), h 6 (by decide) (by decide) (by decide) (by decide) (by decide)]
    exact hV
  have GR := tz_groundOf (m := m2) hB (hV2 m2 gg) to
  simp only [Int.reduceAdd] at GR
  change ev 24 0 [(2, 3), (0, to)] [] R m2 = some ((0, cGr m2 to), R, m2) at GR
  have cg2 : cGr m2 to = cGr m to := by unfold cGr; rw [gg 3 (by decide) (by decide) (by decide) (by decide) (by decide), gg 4 (by decide) (by decide) (by decide) (by decide) (by decide)]
  rw [cg2] at GR
  have cge := (cGr_e hW hto.1).trans (wSt_lo (w := w) hto).symm
  by_cases c : cGr m to = 1
  · have ns : ¬ wSt w to = true := fun q => (cge.2 q) c
    refine ⟨m2, ?_, gg, k2, LD m2 (gg 3 (by decide) (by decide) (by decide) (by decide) (by decide)) (gg 4 (by decide) (by decide) (by decide) (by decide) (by decide)) (gg 5 (by decide) (by decide) (by decide) (by decide) (by decide)) (g2 73 (by decide) (by decide)) (g2 74 (by decide) (by decide)), f7, f10, zd0 (wSt w) to, ⟨0, rfl, ?_⟩, fun s s0 s1 => ?_⟩
    · simp only [s153_0, s153_1, s153_2, s153_5, s153_6, s153_9, s153_10, s153_13, s153_15, s153_18, s153_19, s153_22, s153_23, s153_26, s153_27, s153_28, s153_30, s153_33, s153_36, s153_37, s153_40, s153_41, s153_44, s153_45, s153_48, s153_49, s153_50, s153_53, s153_54, s153_55, s153_56, s153_57, s153_59, s153_61, s153_64, s153_65, s153_68, s153_70, s153_72, s153_75, s153_77, s153_79, s153_82, s153_83, s153_84, s153_87, s153_89, s153_90, s153_91, s153_93, s153_95, s153_98, s153_99, s153_101, s153_104, s153_107, s153_108, s153_110, s153_112, s153_113, s153_116, s153_119, s153_122, zps_0, zps_1, zps_2, zps_3, zps_9, Option.bind_some, Option.bind_none, Int.reduceEq, Int.reduceNe, Int.reduceLT, Int.reduceLE, Int.reduceNeg, Int.reduceAdd, Int.reduceSub, Int.reduceMul, reduceIte, if_true, if_false, true_and, and_true, false_and, and_false, or_true, true_or, or_false, false_or, not_true_eq_false, not_false_eq_true, ite_not, z_b0, z_b1, z_b01, rWK0 hWK, rWK1 hWK, rWK2 hWK, rWK3 hWK, rWK4 hWK, rWK5 hWK, rWK6 hWK, rWK7 hWK, rWK8 hWK, kWK0, kWK1, kWK2, kWK3, kWK4, kWK5, kWK6, kWK7, kWK8, kWK9, kWK10, kWK11, kWK12, kWK13, kWK14, kWK15, kWK16, hK3, hf, zup_zpr, a1, F1, F2, WI, GR, c, and_self, if_true, if_false]
    · rcases zpk_ok (zd0 (wSt w) to).1 (zd0 (wSt w) to).2 88 with ⟨q, -⟩ | ⟨-, -, -, q, -⟩
      · exact q
      · exfalso
        unfold zd0 at q
        dsimp only at q
        rw [if_neg (fun z => ns z.2)] at q
        omega
    · rw [(t2 s s0 s1).1]
      unfold zd0
      dsimp only
      rw [if_neg (fun z => ns z.2)]
  · have ss : wSt w to = true := cge.1 c
    obtain ⟨m3, hm3⟩ : ∃ m3, zpr m2 76 (zrw (m2 76) to 0) = m3 := ⟨_, rfl⟩
    have L0 : ev 153 0 [(2, 70), (0, to), (0, f), (9, 0), (9, 0)] [] R m = ev 153 58 [(2, 70), (0, to), (0, f), (0, 0), (9, 0)] [] R m3 := by
      have c88 : 0 ≤ to ∧ to < 88 := by omega
      rw [← hm3]
      simp only [s153_0, s153_1, s153_2, s153_5, s153_6, s153_9, s153_10, s153_13, s153_15, s153_18, s153_19, s153_22, s153_23, s153_26, s153_27, s153_28, s153_30, s153_33, s153_36, s153_37, s153_40, s153_41, s153_44, s153_45, s153_48, s153_49, s153_50, s153_53, s153_54, s153_55, s153_56, s153_57, s153_59, s153_61, s153_64, s153_65, s153_68, s153_70, s153_72, s153_75, s153_77, s153_79, s153_82, s153_83, s153_84, s153_87, s153_89, s153_90, s153_91, s153_93, s153_95, s153_98, s153_99, s153_101, s153_104, s153_107, s153_108, s153_110, s153_112, s153_113, s153_116, s153_119, s153_122, zps_0, zps_1, zps_2, zps_3, zps_9, Option.bind_some, Option.bind_none, Int.reduceEq, Int.reduceNe, Int.reduceLT, Int.reduceLE, Int.reduceNeg, Int.reduceAdd, Int.reduceSub, Int.reduceMul, reduceIte, if_true, if_false, true_and, and_true, false_and, and_false, or_true, true_or, or_false, false_or, not_true_eq_false, not_false_eq_true, ite_not, z_b0, z_b1, z_b01, rWK0 hWK, rWK1 hWK, rWK2 hWK, rWK3 hWK, rWK4 hWK, rWK5 hWK, rWK6 hWK, rWK7 hWK, rWK8 hWK, kWK0, kWK1, kWK2, kWK3, kWK4, kWK5, kWK6, kWK7, kWK8, kWK9, kWK10, kWK11, kWK12, kWK13, kWK14, kWK15, kWK16, hK3, hf, zup_zpr, a1, F1, F2, WI, GR, c, c88, and_self, if_true, if_false]
    rw [L0]
    have r0 : zRP (m3 76) (m3 77) (zd0 (wSt w) to) := by
      intro s s0 s1
      have t := t2 s s0 s1
      rw [← hm3, zpr_at, zpr_ne (by decide), zrw_if, t.1, t.2]
      unfold zd0
      refine ⟨?_, rfl⟩
      dsimp only
      by_cases e : s = to
      · rw [if_pos e, if_pos ⟨e, ss⟩]
      · rw [if_neg e, if_neg (fun q => e q.1)]
    have d3 : (∀ b, b ≠ 70 → b ≠ 73 → b ≠ 74 → b ≠ 76 → b ≠ 77 → m3 b = m b) ∧ m3 70 = m2 70 ∧ m3 73 = m1 73 ∧ m3 74 = m1 74 := by
      rw [← hm3]
      refine ⟨fun b q1 q2 q3 q4 q5 => by rw [zpr_ne q4, gg b q1 q2 q3 q4 q5], by rw [zpr_ne (by decide)], by rw [zpr_ne (by decide), g2 73 (by decide) (by decide)], by rw [zpr_ne (by decide), g2 74 (by decide) (by decide)]⟩
    clear hm3 L0
    refine zloop (fun r => ∃ m' : zM, r = some ((9, 0), R, m') ∧ (∀ b, b ≠ 70 → b ≠ 73 → b ≠ 74 → b ≠ 76 → b ≠ 77 → m' b = m b) ∧ (∀ k, k ≠ 7 → k ≠ 10 → m' 70 k = m 70 k) ∧ LDok m' ∧ m' 70 7 = m 3 3 ∧ m' 70 10 = f ∧ ∃ Q, zdf (wSt w) (kT w (m 75)) to Q ∧ ∀ s, 0 ≤ s → s < 88 → m' 76 s = Q.1 s) (fun i (x : zM × zV) => ev 153 58 [(2, 70), (0, to), (0, f), (0, i), x.2] [] R x.1) 88 (fun i x => 0 ≤ i ∧ zRP (x.1 76) (x.1 77) (zdt (zds (wSt w) (kT w (m 75))) i.toNat (zd0 (wSt w) to)) ∧ (∀ b, b ≠ 70 → b ≠ 73 → b ≠ 74 → b ≠ 76 → b ≠ 77 → x.1 b = m b) ∧ x.1 70 = m2 70 ∧ x.1 73 = m1 73 ∧ x.1 74 = m1 74) ?_ ?_ 0 (m3, (9, 0)) (by omega) ⟨by omega, r0, d3.1, d3.2.1, d3.2.2.1, d3.2.2.2⟩
    · rintro i ⟨x, l4⟩ hi ⟨i0, hR, hfr, h70, h73, h74⟩ ih
      dsimp only at hR hfr h70 h73 h74 ih ⊢
      obtain ⟨P, hP⟩ : ∃ P, zdt (zds (wSt w) (kT w (m 75))) i.toNat (zd0 (wSt w) to) = P := ⟨_, rfl⟩
      have hI := zDI_it (st := wSt w) (tk := kT w (m 75)) (C := 2020) (to := to) ⟨hto.1, by omega⟩ hco i.toNat (by omega)
      rw [hP] at hR hI
      have x3 : x 3 = m 3 := hfr 3 (by decide) (by decide) (by decide) (by decide) (by decide)
      have x4 : x 4 = m 4 := hfr 4 (by decide) (by decide) (by decide) (by decide) (by decide)
      have x5 : x 5 = m 5 := hfr 5 (by decide) (by decide) (by decide) (by decide) (by decide)
      have x75 : x 75 = m 75 := hfr 75 (by decide) (by decide) (by decide) (by decide) (by decide)
      have x701 : x 70 1 = m 70 1 := by rw [h70, k2 1 (by decide) (by decide)]
      have x7010 : x 70 10 = f := by rw [h70, f10]
      have en : x 3 2 = mN w := by rw [x3]; exact RB_n hW.1
      have hn := MV_n hW.1.2.1
      have tr := hW.2.1
      have hbh : ∀ s, P.1 s < 1000000 → s < if f ≠ 0 then mN w else 64 + 6 * m 70 1 := by
        intro s hs
        have st := (hI.2.1 s hs).1
        have sr := (hI.2.1 s hs).2
        by_cases c64 : s < 64
        · have := (wSt_lo (w := w) ⟨sr.1, c64⟩).1 st
          split <;> omega
        · unfold wSt at st
          rw [if_neg c64] at st
          simp only [Bool.and_eq_true, decide_eq_true_eq] at st
          have f0 : ¬ f ≠ 0 := fun q => st.2.1 h56
          rw [if_neg f0, tr.1]
          omega
      have NE := tz_nearest (R := R) (m := x) hWK hB hR (bh := if f ≠ 0 then mN w else 64 + 6 * m 70 1) (by rw [x7010, en, x701]) (by split <;> omega) (by rw [x701, tr.1]; omega) (fun s s0 s1 hs => by have := hbh s hs; omega)
      obtain ⟨b, hb⟩ : ∃ b, zpk P.1 P.2 88 = b := ⟨_, rfl⟩
      rw [hb] at NE
      have c1 : ¬ 88 ≤ i := by omega
      have zi : zw (i + 1) = i + 1 := zw_i (by omega) (by omega)
      by_cases b4 : b = -4
      · rw [if_pos b4] at NE
        refine ⟨x, ?_, hfr, fun k q1 q2 => by rw [h70]; exact k2 k q1 q2, LD x x3 x4 x5 h73 h74, by rw [h70]; exact f7, x7010, P, ⟨i.toNat, hP.symm, by rw [hb, b4]⟩, fun s s0 s1 => (hR s s0 s1).1⟩
        rw [s153_58]
        simp only [s153_0, s153_1, s153_2, s153_5, s153_6, s153_9, s153_10, s153_13, s153_15, s153_18, s153_19, s153_22, s153_23, s153_26, s153_27, s153_28, s153_30, s153_33, s153_36, s153_37, s153_40, s153_41, s153_44, s153_45, s153_48, s153_49, s153_50, s153_53, s153_54, s153_55, s153_56, s153_57, s153_59, s153_61, s153_64, s153_65, s153_68, s153_70, s153_72, s153_75, s153_77, s153_79, s153_82, s153_83, s153_84, s153_87, s153_89, s153_90, s153_91, s153_93, s153_95, s153_98, s153_99, s153_101, s153_104, s153_107, s153_108, s153_110, s153_112, s153_113, s153_116, s153_119, s153_122, zps_0, zps_1, zps_2, zps_3, zps_9, Option.bind_some, Option.bind_none, Int.reduceEq, Int.reduceNe, Int.reduceLT, Int.reduceLE, Int.reduceNeg, Int.reduceAdd, Int.reduceSub, Int.reduceMul, reduceIte, if_true, if_false, true_and, and_true, false_and, and_false, or_true, true_or, or_false, false_or, not_true_eq_false, not_false_eq_true, ite_not, z_b0, z_b1, z_b01, rWK0 hWK, rWK1 hWK, rWK2 hWK, rWK3 hWK, rWK4 hWK, rWK5 hWK, rWK6 hWK, rWK7 hWK, rWK8 hWK, kWK0, kWK1, kWK2, kWK3, kWK4, kWK5, kWK6, kWK7, kWK8, kWK9, kWK10, kWK11, kWK12, kWK13, kWK14, kWK15, kWK16, hi, c1, NE, if_true, if_false]
      · rw [if_neg b4] at NE
        have ok := zpk_ok P.1 P.2 88
        rw [hb] at ok
        rcases ok with ⟨q, -⟩ | ⟨p1, p2, p3, p4, p5⟩
        · exact absurd q b4
        have p2 : b < 88 := p2
        have sb := hI.2.1 b p4
        have db : 0 ≤ P.1 b ∧ P.1 b ≤ 200000 := by
          rcases hI.1 b with q | ⟨q1, q2⟩
          · omega
          · have : 2020 * ((i.toNat : Nat) : Int) ≤ 2020 * 88 := by omega
            omega
        obtain ⟨x', hx'⟩ : ∃ x', zpr x 77 (zrw (x 77) b 1) = x' := ⟨_, rfl⟩
        have xr : ∀ q, q ≠ 77 → x' q = x q := fun q h => by rw [← hx', zpr_ne h]
        have x77 : x' 77 = zrw (x 77) b 1 := by rw [← hx', zpr_at]
        have hL' : LDok x' := LD x' (by rw [xr 3 (by decide), x3]) (by rw [xr 4 (by decide), x4]) (by rw [xr 5 (by decide), x5]) (by rw [xr 73 (by decide), h73]) (by rw [xr 74 (by decide), h74])
        have hW' : WRs x' w := WRs_c (fun q q0 q1 => by rw [xr q (by omega), hfr q (by omega) (by omega) (by omega) (by omega) (by omega)]) (by rw [xr 70 (by decide), x701]) (by rw [xr 71 (by decide), hfr 71 (by decide) (by decide) (by decide) (by decide) (by decide)]) (by rw [xr 72 (by decide), hfr 72 (by decide) (by decide) (by decide) (by decide) (by decide)]) hW
        have hC' : ∀ i, 0 ≤ i → i < 256 → 0 ≤ x' 75 i ∧ x' 75 i ≤ 1000 := by rw [xr 75 (by decide), x75]; exact hcr
        have x'10 : x' 70 10 = 1 := by rw [xr 70 (by decide), x7010]; exact hf1
        have eT : x' 76 b = P.1 b := by rw [xr 76 (by decide)]; exact (hR b p1 p2).1
        have step : ∃ f' : Int → Int, ev 153 58 [(2, 70), (0, to), (0, f), (0, i), l4] [] R x = ev 153 58 [(2, 70), (0, to), (0, f), (0, i + 1), (0, b)] [] R (zpr x' 76 f') ∧ ∀ s, 0 ≤ s → s < 88 → f' s = if wSt w s = true ∧ kT w (m 75) s b < 1000000 ∧ P.1 b + kT w (m 75) s b < P.1 s then P.1 b + kT w (m 75) s b else P.1 s := by
          have c2 : ¬ b < 0 := by omega
          have c3 : ¬ 88 ≤ b := by omega
          have c4 : 0 ≤ b ∧ b < 88 := ⟨p1, p2⟩
          have c5 : 0 ≤ b := p1
          by_cases c64 : b < 64
          · have c64' : ¬ 64 ≤ b := by omega
            obtain ⟨f', e1, e2⟩ := tz_reachPlotK (R := R) hWK hL' hW' h56 x'10 hC' ⟨p1, c64⟩ sb.1 (by rw [eT]; exact db)
            rw [xr 75 (by decide), x75] at e2
            refine ⟨f', ?_, fun s s0 s1 => ?_⟩
            · rw [s153_58]
              simp only [s153_0, s153_1, s153_2, s153_5, s153_6, s153_9, s153_10, s153_13, s153_15, s153_18, s153_19, s153_22, s153_23, s153_26, s153_27, s153_28, s153_30, s153_33, s153_36, s153_37, s153_40, s153_41, s153_44, s153_45, s153_48, s153_49, s153_50, s153_53, s153_54, s153_55, s153_56, s153_57, s153_59, s153_61, s153_64, s153_65, s153_68, s153_70, s153_72, s153_75, s153_77, s153_79, s153_82, s153_83, s153_84, s153_87, s153_89, s153_90, s153_91, s153_93, s153_95, s153_98, s153_99, s153_101, s153_104, s153_107, s153_108, s153_110, s153_112, s153_113, s153_116, s153_119, s153_122, zps_0, zps_1, zps_2, zps_3, zps_9, Option.bind_some, Option.bind_none, Int.reduceEq, Int.reduceNe, Int.reduceLT, Int.reduceLE, Int.reduceNeg, Int.reduceAdd, Int.reduceSub, Int.reduceMul, reduceIte, if_true, if_false, true_and, and_true, false_and, and_false, or_true, true_or, or_false, false_or, not_true_eq_false, not_false_eq_true, ite_not, z_b0, z_b1, z_b01, rWK0 hWK, rWK1 hWK, rWK2 hWK, rWK3 hWK, rWK4 hWK, rWK5 hWK, rWK6 hWK, rWK7 hWK, rWK8 hWK, kWK0, kWK1, kWK2, kWK3, kWK4, kWK5, kWK6, kWK7, kWK8, kWK9, kWK10, kWK11, kWK12, kWK13, kWK14, kWK15, kWK16, hi, c1, NE, c2, c3, c4, c5, p2, and_self, if_true, if_false, zup_zpr, hx', c64, c64', e1, zi]
            · rw [e2 s s0 s1, eT, xr 76 (by decide), (hR s s0 s1).1]
          · exact absurd (wSt_f h56 sb.1).2 c64
        obtain ⟨f', e1, e2⟩ := step
        rw [e1]
        have fr : ∀ q, q ≠ 76 → q ≠ 77 → zpr x' 76 f' q = x q := fun q h1 h2 => by rw [zpr_ne h1, xr q h2]
        refine ih (zpr x' 76 f', (0, b)) ⟨by omega, ?_, fun q q1 q2 q3 q4 q5 => by dsimp only; rw [fr q q4 q5]; exact hfr q q1 q2 q3 q4 q5, by dsimp only; rw [fr 70 (by decide) (by decide)]; exact h70, by dsimp only; rw [fr 73 (by decide) (by decide)]; exact h73, by dsimp only; rw [fr 74 (by decide) (by decide)]; exact h74⟩
        dsimp only
        rw [show (i + 1).toNat = i.toNat + 1 by omega]
        simp only [zdt]
        rw [hP]
        intro s s0 s1
        rw [zpr_at, zpr_ne (by decide), x77]
        have ez : zds (wSt w) (kT w (m 75)) P = (zrx (wSt w) (kT w (m 75)) P.1 (fun s => P.2 s || decide (s = b)) b, fun s => P.2 s || decide (s = b)) := by
          unfold zds
          rw [hb, if_neg b4]
        rw [ez]
        constructor
        · show f' s = zrx (wSt w) (kT w (m 75)) P.1 (fun s => P.2 s || decide (s = b)) b s
          rw [e2 s s0 s1]
          unfold zrx
          by_cases cc : wSt w s = true ∧ kT w (m 75) s b < 1000000 ∧ P.1 b + kT w (m 75) s b < P.1 s
          · have nd : (P.2 s || decide (s = b)) = false := by
              cases hd : P.2 s with
              | true =>
                exfalso
                have := hI.2.2.2.1 s b hd p3
                have := (hco.1 s b s0 s1 p1 p2 cc.1 sb.1).1
                omega
              | false =>
                rw [Bool.false_or]
                refine decide_eq_false fun e => ?_
                have := (hco.1 s b s0 s1 p1 p2 cc.1 sb.1).1
                rw [e] at cc this
                omega
            rw [if_pos cc, if_pos ⟨cc.1, nd, cc.2⟩]
          · rw [if_neg cc, if_neg (fun q => cc ⟨q.1, q.2.2⟩)]
        · show zrw (x 77) b 1 s = if (P.2 s || decide (s = b)) = true then 1 else 0
          rw [zrw_if]
          by_cases e : s = b
          · rw [if_pos e, decide_eq_true e, Bool.or_true]; rfl
          · rw [if_neg e, (hR s s0 s1).2, decide_eq_false e, Bool.or_false]
    · rintro ⟨x, l4⟩ ⟨-, hR, hfr, h70, h73, h74⟩
      dsimp only at hR hfr h70 h73 h74 ⊢
      rw [show (88 : Int).toNat = 88 from rfl] at hR
      have x3 : x 3 = m 3 := hfr 3 (by decide) (by decide) (by decide) (by decide) (by decide)
      have x4 : x 4 = m 4 := hfr 4 (by decide) (by decide) (by decide) (by decide) (by decide)
      have x5 : x 5 = m 5 := hfr 5 (by decide) (by decide) (by decide) (by decide) (by decide)
      have z88 := zdt_88 (wSt w) (kT w (m 75)) to
      obtain ⟨Q, hQ⟩ : ∃ Q, zdt (zds (wSt w) (kT w (m 75))) 88 (zd0 (wSt w) to) = Q := ⟨_, rfl⟩
      rw [hQ] at hR z88
      refine ⟨x, ?_, hfr, fun k q1 q2 => by rw [h70]; exact k2 k q1 q2, LD x x3 x4 x5 h73 h74, by rw [h70]; exact f7, by rw [h70]; exact f10, Q, ⟨88, hQ.symm, z88⟩, fun s s0 s1 => (hR s s0 s1).1⟩
      rw [s153_58]
      simp only [s153_0, s153_1, s153_2, s153_5, s153_6, s153_9, s153_10, s153_13, s153_15, s153_18, s153_19, s153_22, s153_23, s153_26, s153_27, s153_28, s153_30, s153_33, s153_36, s153_37, s153_40, s153_41, s153_44, s153_45, s153_48, s153_49, s153_50, s153_53, s153_54, s153_55, s153_56, s153_57, s153_59, s153_61, s153_64, s153_65, s153_68, s153_70, s153_72, s153_75, s153_77, s153_79, s153_82, s153_83, s153_84, s153_87, s153_89, s153_90, s153_91, s153_93, s153_95, s153_98, s153_99, s153_101, s153_104, s153_107, s153_108, s153_110, s153_112, s153_113, s153_116, s153_119, s153_122, zps_0, zps_1, zps_2, zps_3, zps_9, Option.bind_some, Option.bind_none, Int.reduceEq, Int.reduceNe, Int.reduceLT, Int.reduceLE, Int.reduceNeg, Int.reduceAdd, Int.reduceSub, Int.reduceMul, reduceIte, if_true, if_false, true_and, and_true, false_and, and_false, or_true, true_or, or_false, false_or, not_true_eq_false, not_false_eq_true, ite_not, z_b0, z_b1, z_b01, if_true]
theorem zdf_fin {st : Int → Bool} {tk tk' : Int → Int → Int} {to C C' : Int} (hto : 0 ≤ to ∧ to < 88) (hC : zCo st tk C) (hC' : zCo st tk' C') (h1 : ∀ s t, st s = true → st t = true → 1 ≤ tk s t) (h : ∀ s t, st s = true → st t = true → tk s t < 1000000 → tk' s t < 1000000) {Q Q' : zDP} (hQ : zdf st tk to Q) (hQ' : zdf st tk' to Q') : ∀ (n : Nat) (s : Int), Q.1 s < 1000000 → Q.1 s ≤ n → Q'.1 s < 1000000 := by
  obtain ⟨d1, d2, d3, d4, d5, d6⟩ := (zdf_DI hto hC hQ).1
  obtain ⟨e0, ef⟩ := zdf_DI hto hC' hQ'
  obtain ⟨e1, e2, e3, e4, e5, e6⟩ := e0
  have base : st to = true → Q'.1 to < 1000000 := by
    intro sto
    obtain ⟨k, hk, -⟩ := hQ'
    have := zdt_le st tk' (zd0 st to) k to
    rw [← hk] at this
    unfold zd0 at this
    dsimp only at this
    rw [if_pos ⟨rfl, sto⟩] at this
    omega
  intro n
  induction n with
  | zero =>
    intro s hs h0
    obtain ⟨ss, sr⟩ := d2 s hs
    rcases d5 s hs with ⟨q, -⟩ | ⟨t, q1, q2, q3⟩
    · rw [q] at ss ⊢; exact base ss
    · have tf := d3 t q1
      have := h1 s t ss (d2 t tf).1
      rcases d1 t with q | q <;> omega
  | succ n ih =>
    intro s hs h0
    obtain ⟨ss, sr⟩ := d2 s hs
    rcases d5 s hs with ⟨q, -⟩ | ⟨t, q1, q2, q3⟩
    · rw [q] at ss ⊢; exact base ss
    · have tf := d3 t q1
      have st' := (d2 t tf).1
      have tr := (d2 t tf).2
      have := h1 s t ss st'
      have ft := ih t tf (by omega)
      have q2' := h s t ss st' q2
      have le := e6 t s (ef t ft) ss q2' sr.1 sr.2
      have b := (hC'.1 s t sr.1 sr.2 tr.1 tr.2 ss st').2 q2'
      have c0 := hC'.2.1
      have c9 := hC'.2.2.1
      rcases e1 t with q | q <;> omega
/-- what the class finds on foot is what the model finds without a crowd -/
theorem kT_reach (hV : MV w) (hcr : ∀ i, 0 ≤ i → i < 256 → 0 ≤ c i ∧ c i ≤ 1000) {to : Int} (hto : 0 ≤ to ∧ to < 88) {Q : zDP} (hQ : zdf (wSt (wX w (fun _ => 0))) (kT (wX w (fun _ => 0)) c) to Q) (s : Int) : Q.1 s < 1000000 ↔ pD (wX w (fun _ => 0)) to s < 1000000 := by
  have hV' := wX_MV hV (fun _ => 0)
  have h56 := wX_56 w (fun _ => 0)
  have z0 : ∀ e : Int, 0 ≤ e → e < 128 → 0 ≤ (fun _ : Int => (0 : Int)) e ∧ (fun _ : Int => (0 : Int)) e ≤ 1000 := fun e _ _ => by dsimp only; omega
  have hCr := wX_Cr w z0
  have k1 := kT_co hV' h56 hcr
  have k2 := wTk_co hV' hCr
  have hQ' : zdf (wSt (wX w (fun _ => 0))) (wTk (wX w (fun _ => 0))) to (zdt (zds (wSt (wX w (fun _ => 0))) (wTk (wX w (fun _ => 0)))) 88 (zd0 (wSt (wX w (fun _ => 0))) to)) := ⟨88, rfl, zdt_88 _ _ _⟩
  rw [pD_e]
  have tw : ∀ s t, wSt (wX w (fun _ => 0)) s = true → wSt (wX w (fun _ => 0)) t = true → (wTk (wX w (fun _ => 0)) s t < 1000000 ↔ zfar (wX w (fun _ => 0) 100 0) s t = 1) := by
    intro s t hs ht
    have fs := wSt_f h56 hs
    have ft := wSt_f h56 ht
    have b := wTk_b hV' hCr hs ht
    have hh1 := (hV'.2.2 s fs.1 ((wSt_lo fs).1 hs).1).2.1
    have hh2 := (hV'.2.2 t ft.1 ((wSt_lo ft).1 ht).1).2.1
    constructor
    · intro q
      unfold wTk at q
      rw [if_pos (show s < 64 ∧ t < 64 from ⟨fs.2, ft.2⟩)] at q
      by_cases f : zfar (wX w (fun _ => 0) 100 0) s t = 1
      · exact f
      · rw [if_neg f] at q; omega
    · intro f
      have cr := hCr _ (wEd_b fs ft (zfar_n f)).1 (wEd_b fs ft (zfar_n f)).2
      have za : zab (wX w (fun _ => 0) 102 s - wX w (fun _ => 0) 102 t) ≤ 9 := by unfold zab; split <;> omega
      unfold wTk
      rw [if_pos (show s < 64 ∧ t < 64 from ⟨fs.2, ft.2⟩), if_pos f]
      split <;> omega
  constructor
  · intro h
    exact zdf_fin hto k1 k2 (fun s t hs ht => (kT_b hV' h56 hcr hs ht).1) (fun s t hs ht q => (tw s t hs ht).2 ((kT_b hV' h56 hcr hs ht).2.1.1 q)) hQ hQ' (Q.1 s).toNat s h (by omega)
  · intro h
    exact zdf_fin hto k2 k1 (fun s t hs ht => wTk_pos hV' hCr hs ht ⟨fun _ => (wSt_f h56 ht).2, fun _ => (wSt_f h56 hs).2⟩) (fun s t hs ht q => (kT_b hV' h56 hcr hs ht).2.1.2 ((tw s t hs ht).1 q)) hQ' hQ _ s h (Int.self_le_toNat _)
end MEASUREK
