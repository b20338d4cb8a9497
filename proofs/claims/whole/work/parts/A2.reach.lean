/-! the class reaches on from a place -/
def WRs (m w : zM) : Prop := RB m w 2 ∧ (m 70 1 = w 100 51 ∧ 0 ≤ w 100 51 ∧ w 100 51 ≤ 4) ∧ (∀ t, 0 ≤ t → t < 4 → m 72 t = if t < w 100 51 then w 131 t else 0) ∧ (∀ t, 0 ≤ t → t < w 100 51 → 2 ≤ w 131 t ∧ w 131 t ≤ 6) ∧ ∀ a, 0 ≤ a → a < 24 → a % 6 < m 72 (a / 6) → m 71 a = w 132 a ∧ 0 ≤ w 132 a ∧ w 132 a < mN w
/-- on foot or by trams; the crowds are the same -/
def CRm (m w : zM) : Prop := (m 70 10 ≠ 0 ↔ w 100 56 = 0) ∧ (∀ p d, 0 ≤ p → p < 64 → 0 ≤ d → d < 4 → 0 ≤ m 73 (4 * p + d) → (if m 70 10 ≠ 0 then m 75 (4 * p + d) else 0) = w 135 (wEd p (m 73 (4 * p + d)))) ∧ ∀ i, 0 ≤ i → i < 256 → 0 ≤ m 75 i ∧ m 75 i ≤ 1000
theorem wEd_s {p q : Int} (h : p ≠ q) : wEd p q = wEd q p := by
  unfold wEd
  (repeat' split) <;> omega
theorem zab_s (x y : Int) : zab (x - y) = zab (y - x) := by unfold zab; split <;> split <;> omega
section REACH
variable {R m w : zM}
theorem wSt_lo {s : Int} (hs : 0 ≤ s ∧ s < 64) : wSt w s = true ↔ (s < mN w ∧ w 101 s ≠ 1) := by
  unfold wSt
  rw [if_pos hs.2]
  simp only [Bool.and_eq_true, decide_eq_true_eq]
  constructor
  · intro h; exact h.2
  · intro h; exact ⟨by omega, h⟩
theorem cGr_e (hW : WRs m w) {p : Int} (hp : 0 ≤ p) : cGr m p ≠ 1 ↔ (p < mN w ∧ w 101 p ≠ 1) := by
  have en : m 3 2 = mN w := RB_n hW.1
  unfold cGr
  rw [en]
  by_cases c : 0 ≤ p ∧ p < mN w
  · rw [if_pos c]
    have : m 4 p = w 101 p := (hW.1.2.2.2.2 p c.1 c.2).1
    rw [this]
    exact ⟨fun h => ⟨c.2, h⟩, fun h => h.2⟩
  · rw [if_neg c]
    constructor
    · intro h; exact absurd rfl h
    · intro h; exact absurd ⟨hp, h.1⟩ c
theorem cSt_e (hL : LDok m) (hW : WRs m w) {p d : Int} (hp : 0 ≤ p ∧ p < 64) (hd : 0 ≤ d ∧ d < 4) (h : 0 ≤ m 73 (4 * p + d)) : m 73 (4 * p + d) < 64 ∧ wSt w (m 73 (4 * p + d)) = true ∧ wSt w p = true ∧ zfar (w 100 0) (m 73 (4 * p + d)) p = 1 ∧ m 74 (4 * p + d) = (if w 101 (m 73 (4 * p + d)) = 2 ∧ w 101 p = 2 then 1 else 3) + zab (w 102 (m 73 (4 * p + d)) - w 102 p) := by
  obtain ⟨l1, l2⟩ := hL p d hp.1 hp.2 hd.1 hd.2
  have en : m 3 2 = mN w := RB_n hW.1
  have e0 : m 3 0 = w 100 0 := hW.1.2.2.1
  have hn := MV_n hW.1.2.1
  by_cases g : cGo m p d = true
  · rw [if_pos g] at l1 l2
    obtain ⟨g1, g2, g3⟩ := (cGo_i m p d).1 g
    obtain ⟨r1, r2, r3⟩ := cQ_r hW.1.1.1 g1
    rw [l1, l2]
    generalize cQ m p d = q at *
    have sq := (cGr_e hW g1).1 g3
    have sp := (cGr_e hW hp.1).1 g2
    have fq : m 4 q = w 101 q ∧ m 5 q = w 102 q ∧ m 6 q = w 103 q := hW.1.2.2.2.2 q g1 sq.1
    have fp : m 4 p = w 101 p ∧ m 5 p = w 102 p ∧ m 6 p = w 103 p := hW.1.2.2.2.2 p hp.1 sp.1
    refine ⟨by omega, (wSt_lo ⟨g1, by omega⟩).2 sq, (wSt_lo hp).2 sp, by rw [← e0]; exact r3, ?_⟩
    unfold cBs
    rw [fq.1, fp.1, fq.2.1, fp.2.1, zab_s]
    congr 1
    by_cases a : w 101 p = 2 <;> by_cases b : w 101 q = 2 <;> simp [a, b]
  · rw [if_neg g] at l1
    omega
theorem cSt_a (hL : LDok m) (hW : WRs m w) {p s : Int} (hp : 0 ≤ p ∧ p < 64) (hs : 0 ≤ s ∧ s < 64) (sp : wSt w p = true) (ss : wSt w s = true) (hf : zfar (w 100 0) s p = 1) : ∃ d, 0 ≤ d ∧ d < 4 ∧ m 73 (4 * p + d) = s := by
  have en : m 3 2 = mN w := RB_n hW.1
  have e0 : m 3 0 = w 100 0 := hW.1.2.2.1
  have e1 : m 3 1 = w 100 1 := hW.1.2.2.2.1
  have s1 := (wSt_lo hs).1 ss
  have p1 := (wSt_lo hp).1 sp
  have hV := hW.1.2.1
  obtain ⟨d, d0, d1, e⟩ := zbes_a (w := w 100 0) (h := w 100 1) hV.1 hV.2.1 ⟨hp.1, p1.1⟩ ⟨hs.1, s1.1⟩ hf
  refine ⟨d, d0, d1, ?_⟩
  have q : cQ m p d = s := by unfold cQ; rw [en, if_pos ⟨hp.1, p1.1⟩, e0, e1, e]
  have g : cGo m p d = true := (cGo_i m p d).2 ⟨by rw [q]; exact hs.1, (cGr_e hW hp.1).2 p1, by rw [q]; exact (cGr_e hW hs.1).2 s1⟩
  have := (hL p d hp.1 hp.2 d0 d1).1
  rw [if_pos g, q] at this
  exact this
/-- what a step takes -/
theorem cSt_t (hL : LDok m) (hW : WRs m w) (hC : CRm m w) {p d : Int} (hp : 0 ≤ p ∧ p < 64) (hd : 0 ≤ d ∧ d < 4) (h : 0 ≤ m 73 (4 * p + d)) : (if m 70 10 ≠ 0 then m 74 (4 * p + d) + 2 * m 75 (4 * p + d) else m 74 (4 * p + d)) = wTk w (m 73 (4 * p + d)) p := by
  obtain ⟨q1, q2, q3, q4, q5⟩ := cSt_e hL hW hp hd h
  have cr := hC.2.1 p d hp.1 hp.2 hd.1 hd.2 h
  have ne : p ≠ m 73 (4 * p + d) := by
    intro e
    rw [← e] at q4
    unfold zfar zab at q4
    simp at q4
  rw [wEd_s ne] at cr
  have e : wTk w (m 73 (4 * p + d)) p = (if w 101 (m 73 (4 * p + d)) = 2 ∧ w 101 p = 2 then 1 else 3) + zab (w 102 (m 73 (4 * p + d)) - w 102 p) + 2 * w 135 (wEd (m 73 (4 * p + d)) p) := by
    unfold wTk
    rw [if_pos ⟨q1, hp.2⟩, if_pos q4]
  rw [e, ← cr, q5]
  by_cases c : m 70 10 ≠ 0
  · rw [if_pos c, if_pos c]
  · rw [if_neg c, if_neg c]; omega
theorem cSp_e (hW : WRs m w) (hb : w 100 56 ≠ 0) {s p : Int} (hs : 64 ≤ s ∧ s < 88) (hp : 0 ≤ p) : cSp m (s - 64) = p ↔ (wSt w s = true ∧ wPl w s = p) := by
  obtain ⟨-, ⟨t1, t2, t3⟩, h72, h131, h71⟩ := hW
  unfold cSp wSt wPl
  rw [if_neg (show ¬ s < 64 by omega), if_neg (show ¬ s < 64 by omega)]
  have e72 := h72 ((s - 64) / 6) (by omega) (by omega)
  by_cases c : (s - 64) % 6 < m 72 ((s - 64) / 6)
  · rw [if_pos ⟨by omega, c⟩, (h71 (s - 64) (by omega) (by omega) c).1]
    rw [e72] at c
    split at c
    next c2 =>
      constructor
      · intro h
        refine ⟨?_, h⟩
        simp only [Bool.and_eq_true, decide_eq_true_eq]
        exact ⟨by omega, hb, c2, c⟩
      · intro h; exact h.2
    next => omega
  · rw [if_neg (fun q => c q.2)]
    constructor
    · intro h; omega
    · intro h
      exfalso
      simp only [Bool.and_eq_true, decide_eq_true_eq] at h
      rw [e72, if_pos h.1.2.2.1] at c
      exact c h.1.2.2.2
theorem cSp_c (f : Int → Int) (a : Int) : cSp (zpr m 76 f) a = cSp m a := by
  unfold cSp
  rw [zpr_ne (by decide), zpr_ne (by decide)]
theorem tz_reachPlot (hWK : WK R) (hL : LDok m) (hW : WRs m w) (hC : CRm m w) {p : Int} (hp : 0 ≤ p ∧ p < 64) (sp : wSt w p = true) (hT : 0 ≤ m 76 p ∧ m 76 p ≤ 200000) : ∃ f : Int → Int, ev 157 0 [(2, 70), (0, p), (9, 0), (9, 0)] [] R m = some ((9, 0), R, zpr m 76 f) ∧ ∀ s, 0 ≤ s → s < 88 → f s = if wSt w s = true ∧ wTk w s p < 1000000 ∧ m 76 p + wTk w s p < m 76 s then m 76 p + wTk w s p else m 76 s := by
  obtain ⟨T, hTT⟩ : ∃ T, m 76 p = T := ⟨_, rfl⟩
  rw [hTT] at hT ⊢
  have TF := tz_timeFrom (m := m) hWK p
  rw [if_pos (by omega), hTT] at TF
  have L0 : ev 157 0 [(2, 70), (0, p), (9, 0), (9, 0)] [] R m = ev 157 8 [(2, 70), (0, p), (0, T), (0, 0)] [] R (zpr m 76 (m 76)) := by
    rw [zpr_self]
    simp only [s157_0, s157_1, s157_2, s157_5, s157_6, s157_7, s157_9, s157_10, s157_13, s157_14, s157_15, s157_16, s157_17, s157_20, s157_21, s157_22, s157_23, s157_24, s157_27, s157_28, s157_31, s157_34, s157_37, s157_38, s157_41, s157_44, s157_45, s157_46, s157_48, s157_49, s157_52, s157_54, s157_55, s157_58, s157_59, s157_60, s157_63, s157_64, s157_67, s157_68, s157_70, s157_71, s157_72, s157_73, s157_76, s157_79, s157_82, zps_0, zps_1, zps_2, zps_3, zps_9, Option.bind_some, Option.bind_none, Int.reduceEq, Int.reduceNe, Int.reduceLT, Int.reduceLE, Int.reduceNeg, Int.reduceAdd, Int.reduceSub, Int.reduceMul, reduceIte, if_true, if_false, true_and, and_true, false_and, and_false, or_true, true_or, or_false, false_or, not_true_eq_false, not_false_eq_true, ite_not, z_b0, z_b1, z_b01, rWK0 hWK, rWK1 hWK, rWK2 hWK, rWK3 hWK, rWK4 hWK, rWK5 hWK, rWK6 hWK, rWK7 hWK, rWK8 hWK, kWK0, kWK1, kWK2, kWK3, kWK4, kWK5, kWK6, kWK7, kWK8, kWK9, kWK10, kWK11, kWK12, kWK13, kWK14, kWK15, kWK16, TF]
  rw [L0]
  clear L0
  -- steps
  have g : ∀ (f : Int → Int) b, b ≠ 76 → zpr m 76 f b = m b := fun f b h => zpr_ne h
  have SE : ∀ (f : Int → Int) d, 0 ≤ d → d < 4 → ev 159 0 [(2, 70), (0, p), (0, d)] [] R (zpr m 76 f) = some ((0, m 73 (4 * p + d)), R, zpr m 76 f) := fun f d d0 d1 => by
    rw [tz_stepEnd hWK hp ⟨d0, d1⟩, g f 73 (by decide)]
  have bb : ∀ d, 0 ≤ d → d < 4 → (0 ≤ m 74 (4 * p + d) ∧ m 74 (4 * p + d) ≤ 1000000) := by
    intro d d0 d1
    obtain ⟨l1, l2⟩ := hL p d hp.1 hp.2 d0 d1
    by_cases c : 0 ≤ m 73 (4 * p + d)
    · obtain ⟨q1, q2, q3, q4, q5⟩ := cSt_e hL hW hp ⟨d0, d1⟩ c
      have hV := hW.1.2.1
      have s1 := (wSt_lo ⟨c, q1⟩).1 q2
      have p1 := (wSt_lo hp).1 q3
      have h1 := (hV.2.2 _ c s1.1).2.1
      have h2 := (hV.2.2 p hp.1 p1.1).2.1
      rw [q5]
      unfold zab
      (repeat' split) <;> omega
    · by_cases g : cGo m p d = true
      · rw [if_pos g] at l1
        have := ((cGo_i m p d).1 g).1
        omega
      · rw [if_neg g] at l2
        rw [l2]; omega
  have ST : ∀ (f : Int → Int) d, 0 ≤ d → d < 4 → ∃ v, ev 160 0 [(2, 70), (0, p), (0, d), (9, 0)] [] R (zpr m 76 f) = some ((0, v), R, zpr m 76 f) ∧ (0 ≤ v ∧ v ≤ 1002000) ∧ (0 ≤ m 73 (4 * p + d) → v = wTk w (m 73 (4 * p + d)) p) := by
    intro f d d0 d1
    have b1 := bb d d0 d1
    have b2 := hC.2.2 (4 * p + d) (by omega) (by omega)
    have S := tz_stepTime (R := R) (m := zpr m 76 f) hWK hp ⟨d0, d1⟩ (by rw [g f 74 (by decide)]; exact b1) (by rw [g f 75 (by decide)]; exact b2)
    rw [g f 70 (by decide), g f 74 (by decide), g f 75 (by decide)] at S
    exact ⟨_, S, by split <;> omega, fun h => cSt_t hL hW hC hp ⟨d0, d1⟩ h⟩
  have SH : ∀ (f : Int → Int) s t, ev 161 0 [(2, 70), (0, s), (0, t)] [] R (zpr m 76 f) = some ((9, 0), R, zpr m 76 (if (0 ≤ s ∧ s < 88) ∧ t < f s then zrw f s t else f)) := fun f s t => by
    rw [tz_shorten hWK, zpr_at]
    by_cases c : (0 ≤ s ∧ s < 88) ∧ t < f s
    · rw [if_pos c, if_pos c, zpr_zpr]
    · rw [if_neg c, if_neg c]
  have loop1 : ∃ f : Int → Int, ev 157 8 [(2, 70), (0, p), (0, T), (0, 0)] [] R (zpr m 76 (m 76)) = ev 157 8 [(2, 70), (0, p), (0, T), (0, 4)] [] R (zpr m 76 f) ∧ ∀ s, 0 ≤ s → s < 88 → f s = if zany (fun d => decide (m 73 (4 * p + d) = s)) (4 : Int).toNat = true ∧ T + wTk w s p < m 76 s then T + wTk w s p else m 76 s := by
    refine zloop (fun r => ∃ f : Int → Int, r = ev 157 8 [(2, 70), (0, p), (0, T), (0, 4)] [] R (zpr m 76 f) ∧ ∀ s, 0 ≤ s → s < 88 → f s = if zany (fun d => decide (m 73 (4 * p + d) = s)) (4 : Int).toNat = true ∧ T + wTk w s p < m 76 s then T + wTk w s p else m 76 s) (fun d (f : Int → Int) => ev 157 8 [(2, 70), (0, p), (0, T), (0, d)] [] R (zpr m 76 f)) 4 (fun d f => 0 ≤ d ∧ ∀ s, 0 ≤ s → s < 88 → f s = if zany (fun d => decide (m 73 (4 * p + d) = s)) d.toNat = true ∧ T + wTk w s p < m 76 s then T + wTk w s p else m 76 s) ?_ ?_ 0 (m 76) (by omega) ⟨by omega, fun s s0 s1 => ?_⟩
    · intro d f hd ⟨d0, hI⟩ ih
      obtain ⟨v, e2, v1, v2⟩ := ST f d d0 hd
      have c1 : ¬ 4 ≤ d := by omega
      have zv : zw (T + v) = T + v := zw_i (by omega) (by omega)
      have zd : zw (d + 1) = d + 1 := zw_i (by omega) (by omega)
      rw [s157_8]
      simp only [s157_0, s157_1, s157_2, s157_5, s157_6, s157_7, s157_9, s157_10, s157_13, s157_14, s157_15, s157_16, s157_17, s157_20, s157_21, s157_22, s157_23, s157_24, s157_27, s157_28, s157_31, s157_34, s157_37, s157_38, s157_41, s157_44, s157_45, s157_46, s157_48, s157_49, s157_52, s157_54, s157_55, s157_58, s157_59, s157_60, s157_63, s157_64, s157_67, s157_68, s157_70, s157_71, s157_72, s157_73, s157_76, s157_79, s157_82, zps_0, zps_1, zps_2, zps_3, zps_9, Option.bind_some, Option.bind_none, Int.reduceEq, Int.reduceNe, Int.reduceLT, Int.reduceLE, Int.reduceNeg, Int.reduceAdd, Int.reduceSub, Int.reduceMul, reduceIte, if_true, if_false, true_and, and_true, false_and, and_false, or_true, true_or, or_false, false_or, not_true_eq_false, not_false_eq_true, ite_not, z_b0, z_b1, z_b01, rWK0 hWK, rWK1 hWK, rWK2 hWK, rWK3 hWK, rWK4 hWK, rWK5 hWK, rWK6 hWK, rWK7 hWK, rWK8 hWK, kWK0, kWK1, kWK2, kWK3, kWK4, kWK5, kWK6, kWK7, kWK8, kWK9, kWK10, kWK11, kWK12, kWK13, kWK14, kWK15, kWK16, hd, c1, SE f d d0 hd, e2, zv, SH, zd, if_true, if_false]
      refine ih _ ⟨by omega, fun s s0 s1 => ?_⟩
      have hs := hI s s0 s1
      rw [zany_step _ d0]
      by_cases q : m 73 (4 * p + d) = s
      · have qv := v2 (by omega)
        rw [q] at qv ⊢
        rw [qv, decide_eq_true rfl, Bool.or_true]
        by_cases a : T + wTk w s p < m 76 s
        · rw [if_pos (show true = true ∧ T + wTk w s p < m 76 s from ⟨rfl, a⟩)]
          by_cases b : (0 ≤ s ∧ s < 88) ∧ T + wTk w s p < f s
          · rw [if_pos b, zrw_at]
          · rw [if_neg b, hs]
            by_cases z : zany (fun d => decide (m 73 (4 * p + d) = s)) d.toNat = true
            · rw [if_pos ⟨z, a⟩]
            · rw [if_neg (fun q => z q.1)] at hs
              exact absurd ⟨⟨s0, s1⟩, by rw [hs]; exact a⟩ b
        · rw [if_neg (show ¬ (true = true ∧ T + wTk w s p < m 76 s) from fun q => a q.2)]
          rw [if_neg (fun q => a q.2)] at hs
          rw [if_neg (fun b => a (by rw [hs] at b; exact b.2)), hs]
      · rw [decide_eq_false q, Bool.or_false, ← hs]
        split
        next => rw [zrw_ne (fun e => q e.symm)]
        next => rfl
    · rintro f ⟨-, hI⟩
      exact ⟨f, rfl, hI⟩
    · rw [if_neg (fun q => by have := q.1; cases this)]
  obtain ⟨f1, e1, h1⟩ := loop1
  rw [e1]
  clear e1
  have h1' : ∀ s, 0 ≤ s → s < 64 → f1 s = if wSt w s = true ∧ wTk w s p < 1000000 ∧ T + wTk w s p < m 76 s then T + wTk w s p else m 76 s := by
    intro s s0 s1
    rw [h1 s s0 (by omega)]
    have e : (zany (fun d => decide (m 73 (4 * p + d) = s)) (4 : Int).toNat = true) ↔ (wSt w s = true ∧ wTk w s p < 1000000) := by
      rw [zany_iff]
      constructor
      · rintro ⟨d, d0, d1, hd⟩
        have hd := of_decide_eq_true hd
        have d1 : d < 4 := by have : ((4 : Int).toNat : Int) = 4 := rfl; omega
        obtain ⟨q1, q2, q3, q4, q5⟩ := cSt_e hL hW hp ⟨d0, d1⟩ (by omega)
        obtain ⟨v, -, v1, v2⟩ := ST (m 76) d d0 d1
        rw [hd] at q2 q4
        refine ⟨q2, ?_⟩
        have hV := hW.1.2.1
        have p1 := (wSt_lo hp).1 sp
        have s1' := (wSt_lo ⟨s0, s1⟩).1 q2
        have ne : s ≠ p := by intro e; rw [e] at q4; unfold zfar zab at q4; simp at q4
        have cr := hC.2.1 p d hp.1 hp.2 d0 d1 (by omega)
        have b2 := hC.2.2 (4 * p + d) (by omega) (by omega)
        rw [hd, wEd_s (fun z => ne z.symm)] at cr
        have hh1 := (hV.2.2 s s0 s1'.1).2.1
        have hh2 := (hV.2.2 p hp.1 p1.1).2.1
        unfold wTk
        rw [if_pos ⟨s1, hp.2⟩, if_pos q4, ← cr]
        unfold zab
        (repeat' split) <;> omega
      · rintro ⟨a, b⟩
        have f : zfar (w 100 0) s p = 1 := by
          unfold wTk at b
          rw [if_pos ⟨s1, hp.2⟩] at b
          by_cases f : zfar (w 100 0) s p = 1
          · exact f
          · rw [if_neg f] at b; omega
        obtain ⟨d, d0, d1, e⟩ := cSt_a hL hW hp ⟨s0, s1⟩ sp a f
        exact ⟨d, d0, by have : ((4 : Int).toNat : Int) = 4 := rfl; omega, decide_eq_true e⟩
    by_cases a : T + wTk w s p < m 76 s
    · by_cases b : wSt w s = true ∧ wTk w s p < 1000000
      · rw [if_pos ⟨e.2 b, a⟩, if_pos ⟨b.1, b.2, a⟩]
      · rw [if_neg (fun q => b (e.1 q.1)), if_neg (fun q => b ⟨q.1, q.2.1⟩)]
    · rw [if_neg (fun q => a q.2), if_neg (fun q => a q.2.2)]
  have h1b : ∀ s, 64 ≤ s → s < 88 → f1 s = m 76 s := by
    intro s s0 s1
    rw [h1 s (by omega) s1, if_neg]
    rintro ⟨q, -⟩
    rw [zany_iff] at q
    obtain ⟨d, d0, d1, hd⟩ := q
    have hd := of_decide_eq_true hd
    have d1 : d < 4 := by have : ((4 : Int).toNat : Int) = 4 := rfl; omega
    have := (cSt_e hL hW hp ⟨d0, d1⟩ (by omega)).1
    omega
  by_cases fo : m 70 10 = 0
  · have hb : w 100 56 ≠ 0 := fun q => hC.1.2 q fo
    have n70 : ∀ f, zpr m 76 f 70 = m 70 := fun f => g f 70 (by decide)
    have ht := hW.2.1
    have z6 : zw (m 70 1 * 6) = 6 * m 70 1 := by rw [zw_i (by omega) (by omega)]; omega
    have L1 : ev 157 8 [(2, 70), (0, p), (0, T), (0, 4)] [] R (zpr m 76 f1) = ev 157 47 [(2, 70), (0, p), (0, T), (0, 0)] [] R (zpr m 76 f1) := by
      rw [s157_8]
      simp only [s157_0, s157_1, s157_2, s157_5, s157_6, s157_7, s157_9, s157_10, s157_13, s157_14, s157_15, s157_16, s157_17, s157_20, s157_21, s157_22, s157_23, s157_24, s157_27, s157_28, s157_31, s157_34, s157_37, s157_38, s157_41, s157_44, s157_45, s157_46, s157_48, s157_49, s157_52, s157_54, s157_55, s157_58, s157_59, s157_60, s157_63, s157_64, s157_67, s157_68, s157_70, s157_71, s157_72, s157_73, s157_76, s157_79, s157_82, zps_0, zps_1, zps_2, zps_3, zps_9, Option.bind_some, Option.bind_none, Int.reduceEq, Int.reduceNe, Int.reduceLT, Int.reduceLE, Int.reduceNeg, Int.reduceAdd, Int.reduceSub, Int.reduceMul, reduceIte, if_true, if_false, true_and, and_true, false_and, and_false, or_true, true_or, or_false, false_or, not_true_eq_false, not_false_eq_true, ite_not, z_b0, z_b1, z_b01, rWK0 hWK, rWK1 hWK, rWK2 hWK, rWK3 hWK, rWK4 hWK, rWK5 hWK, rWK6 hWK, rWK7 hWK, rWK8 hWK, kWK0, kWK1, kWK2, kWK3, kWK4, kWK5, kWK6, kWK7, kWK8, kWK9, kWK10, kWK11, kWK12, kWK13, kWK14, kWK15, kWK16, n70, fo, if_true]
    rw [L1]
    have PL : ∀ (f : Int → Int) a, ev 152 0 [(2, 70), (0, a)] [] R (zpr m 76 f) = some ((0, cSp m a), R, zpr m 76 f) := fun f a => by rw [tz_stopPlot hWK, cSp_c]
    have fin : ∀ s, 64 ≤ s → s < 88 → cSp m (s - 64) = p → s < 64 + 6 * m 70 1 := by
      intro s s0 s1 e
      have := ((cSp_e hW hb ⟨s0, s1⟩ hp.1).1 e).1
      unfold wSt at this
      rw [if_neg (by omega)] at this
      simp only [Bool.and_eq_true, decide_eq_true_eq] at this
      have := this.2.2.1
      omega
    refine zloop (fun r => ∃ f : Int → Int, r = some ((9, 0), R, zpr m 76 f) ∧ ∀ s, 0 ≤ s → s < 88 → f s = if wSt w s = true ∧ wTk w s p < 1000000 ∧ T + wTk w s p < m 76 s then T + wTk w s p else m 76 s) (fun a (f : Int → Int) => ev 157 47 [(2, 70), (0, p), (0, T), (0, a)] [] R (zpr m 76 f)) (6 * m 70 1) (fun a f => 0 ≤ a ∧ (∀ s, 0 ≤ s → s < 64 → f s = f1 s) ∧ ∀ s, 64 ≤ s → s < 88 → f s = if s < 64 + a ∧ cSp m (s - 64) = p ∧ T < m 76 s then T else m 76 s) ?_ ?_ 0 f1 (by omega) ⟨by omega, fun s _ _ => rfl, fun s s0 s1 => by rw [if_neg (by omega)]; exact h1b s s0 s1⟩
    · intro a f ha ⟨a0, hI, hJ⟩ ih
      have c1 : ¬ 6 * m 70 1 ≤ a := by omega
      have za : zw (64 + a) = 64 + a := zw_i (by omega) (by omega)
      have zd : zw (a + 1) = a + 1 := zw_i (by omega) (by omega)
      rw [s157_47]
      by_cases q : cSp m a = p
      · simp only [s157_0, s157_1, s157_2, s157_5, s157_6, s157_7, s157_9, s157_10, s157_13, s157_14, s157_15, s157_16, s157_17, s157_20, s157_21, s157_22, s157_23, s157_24, s157_27, s157_28, s157_31, s157_34, s157_37, s157_38, s157_41, s157_44, s157_45, s157_46, s157_48, s157_49, s157_52, s157_54, s157_55, s157_58, s157_59, s157_60, s157_63, s157_64, s157_67, s157_68, s157_70, s157_71, s157_72, s157_73, s157_76, s157_79, s157_82, zps_0, zps_1, zps_2, zps_3, zps_9, Option.bind_some, Option.bind_none, Int.reduceEq, Int.reduceNe, Int.reduceLT, Int.reduceLE, Int.reduceNeg, Int.reduceAdd, Int.reduceSub, Int.reduceMul, reduceIte, if_true, if_false, true_and, and_true, false_and, and_false, or_true, true_or, or_false, false_or, not_true_eq_false, not_false_eq_true, ite_not, z_b0, z_b1, z_b01, rWK0 hWK, rWK1 hWK, rWK2 hWK, rWK3 hWK, rWK4 hWK, rWK5 hWK, rWK6 hWK, rWK7 hWK, rWK8 hWK, kWK0, kWK1, kWK2, kWK3, kWK4, kWK5, kWK6, kWK7, kWK8, kWK9, kWK10, kWK11, kWK12, kWK13, kWK14, kWK15, kWK16, n70, z6, ha, c1, PL, q, za, SH, zd, if_true, if_false]
        refine ih _ ⟨by omega, fun s s0 s1 => ?_, fun s s0 s1 => ?_⟩
        · split
          next => rw [zrw_ne (by omega)]; exact hI s s0 s1
          next => exact hI s s0 s1
        · have hs := hJ s s0 s1
          by_cases e : s = 64 + a
          · subst e
            rw [if_neg (by omega)] at hs
            rw [show 64 + a - 64 = a by omega] at *
            by_cases b : T < m 76 (64 + a)
            · rw [if_pos ⟨by omega, by rw [hs]; exact b⟩, zrw_at, if_pos ⟨by omega, q, b⟩]
            · rw [if_neg (fun z => b (by rw [hs] at z; exact z.2)), hs, if_neg (fun z => b z.2.2)]
          · have : f s = (if (0 ≤ 64 + a ∧ 64 + a < 88) ∧ T < f (64 + a) then zrw f (64 + a) T else f) s := by
              split
              next => rw [zrw_ne e]
              next => rfl
            rw [← this, hs]
            by_cases b : cSp m (s - 64) = p ∧ T < m 76 s
            · by_cases c : s < 64 + a
              · rw [if_pos ⟨c, b⟩, if_pos ⟨by omega, b⟩]
              · rw [if_neg (fun z => c z.1), if_neg (fun z => by omega)]
            · rw [if_neg (fun z => b z.2), if_neg (fun z => b z.2)]
      · simp only [s157_0, s157_1, s157_2, s157_5, s157_6, s157_7, s157_9, s157_10, s157_13, s157_14, s157_15, s157_16, s157_17, s157_20, s157_21, s157_22, s157_23, s157_24, s157_27, s157_28, s157_31, s157_34, s157_37, s157_38, s157_41, s157_44, s157_45, s157_46, s157_48, s157_49, s157_52, s157_54, s157_55, s157_58, s157_59, s157_60, s157_63, s157_64, s157_67, s157_68, s157_70, s157_71, s157_72, s157_73, s157_76, s157_79, s157_82, zps_0, zps_1, zps_2, zps_3, zps_9, Option.bind_some, Option.bind_none, Int.reduceEq, Int.reduceNe, Int.reduceLT, Int.reduceLE, Int.reduceNeg, Int.reduceAdd, Int.reduceSub, Int.reduceMul, reduceIte, if_true, if_false, true_and, and_true, false_and, and_false, or_true, true_or, or_false, false_or, not_true_eq_false, not_false_eq_true, ite_not, z_b0, z_b1, z_b01, rWK0 hWK, rWK1 hWK, rWK2 hWK, rWK3 hWK, rWK4 hWK, rWK5 hWK, rWK6 hWK, rWK7 hWK, rWK8 hWK, kWK0, kWK1, kWK2, kWK3, kWK4, kWK5, kWK6, kWK7, kWK8, kWK9, kWK10, kWK11, kWK12, kWK13, kWK14, kWK15, kWK16, n70, z6, ha, c1, PL, q, zd, if_true, if_false]
        refine ih _ ⟨by omega, hI, fun s s0 s1 => ?_⟩
        rw [hJ s s0 s1]
        by_cases b : cSp m (s - 64) = p ∧ T < m 76 s
        · by_cases c : s < 64 + a
          · rw [if_pos ⟨c, b⟩, if_pos ⟨by omega, b⟩]
          · rw [if_neg (fun z => c z.1), if_neg (fun z => by
              have : s - 64 = a := by omega
              rw [this] at b
              exact q b.1)]
        · rw [if_neg (fun z => b z.2), if_neg (fun z => b z.2)]
    · rintro f ⟨-, hI, hJ⟩
      refine ⟨f, ?_, fun s s0 s1 => ?_⟩
      · rw [s157_47]
        simp only [s157_0, s157_1, s157_2, s157_5, s157_6, s157_7, s157_9, s157_10, s157_13, s157_14, s157_15, s157_16, s157_17, s157_20, s157_21, s157_22, s157_23, s157_24, s157_27, s157_28, s157_31, s157_34, s157_37, s157_38, s157_41, s157_44, s157_45, s157_46, s157_48, s157_49, s157_52, s157_54, s157_55, s157_58, s157_59, s157_60, s157_63, s157_64, s157_67, s157_68, s157_70, s157_71, s157_72, s157_73, s157_76, s157_79, s157_82, zps_0, zps_1, zps_2, zps_3, zps_9, Option.bind_some, Option.bind_none, Int.reduceEq, Int.reduceNe, Int.reduceLT, Int.reduceLE, Int.reduceNeg, Int.reduceAdd, Int.reduceSub, Int.reduceMul, reduceIte, if_true, if_false, true_and, and_true, false_and, and_false, or_true, true_or, or_false, false_or, not_true_eq_false, not_false_eq_true, ite_not, z_b0, z_b1, z_b01, rWK0 hWK, rWK1 hWK, rWK2 hWK, rWK3 hWK, rWK4 hWK, rWK5 hWK, rWK6 hWK, rWK7 hWK, rWK8 hWK, kWK0, kWK1, kWK2, kWK3, kWK4, kWK5, kWK6, kWK7, kWK8, kWK9, kWK10, kWK11, kWK12, kWK13, kWK14, kWK15, kWK16, n70, z6, Int.le_refl, if_true]
      · by_cases c : s < 64
        · rw [hI s s0 c]; exact h1' s s0 c
        · rw [hJ s (by omega) s1]
          have ce := cSp_e hW hb (s := s) ⟨by omega, s1⟩ hp.1
          have tk : wSt w s = true → wTk w s p = if wPl w s = p then 0 else 1000000 := by
            intro _
            unfold wTk
            rw [if_neg (by omega), if_neg (by omega), if_neg c]
            have : wPl w p = p := by unfold wPl; rw [if_pos hp.2]
            rw [this]
          by_cases b : cSp m (s - 64) = p
          · have b2 := ce.1 b
            have t0 := tk b2.1
            rw [if_pos b2.2] at t0
            rw [t0, Int.add_zero]
            have := fin s (by omega) s1 b
            by_cases d : T < m 76 s
            · rw [if_pos ⟨this, b, d⟩, if_pos ⟨b2.1, by omega, d⟩]
            · rw [if_neg (fun z => d z.2.2), if_neg (fun z => d z.2.2)]
          · rw [if_neg (fun z => b z.2.1), if_neg]
            rintro ⟨z1, z2, z3⟩
            rw [tk z1] at z2
            split at z2
            next z4 => exact b (ce.2 ⟨z1, z4⟩)
            next => omega
  · have hb : w 100 56 = 0 := hC.1.1 fo
    have n70 : ∀ f, zpr m 76 f 70 = m 70 := fun f => g f 70 (by decide)
    refine ⟨f1, ?_, fun s s0 s1 => ?_⟩
    · rw [s157_8]
      simp only [s157_0, s157_1, s157_2, s157_5, s157_6, s157_7, s157_9, s157_10, s157_13, s157_14, s157_15, s157_16, s157_17, s157_20, s157_21, s157_22, s157_23, s157_24, s157_27, s157_28, s157_31, s157_34, s157_37, s157_38, s157_41, s157_44, s157_45, s157_46, s157_48, s157_49, s157_52, s157_54, s157_55, s157_58, s157_59, s157_60, s157_63, s157_64, s157_67, s157_68, s157_70, s157_71, s157_72, s157_73, s157_76, s157_79, s157_82, zps_0, zps_1, zps_2, zps_3, zps_9, Option.bind_some, Option.bind_none, Int.reduceEq, Int.reduceNe, Int.reduceLT, Int.reduceLE, Int.reduceNeg, Int.reduceAdd, Int.reduceSub, Int.reduceMul, reduceIte, if_true, if_false, true_and, and_true, false_and, and_false, or_true, true_or, or_false, false_or, not_true_eq_false, not_false_eq_true, ite_not, z_b0, z_b1, z_b01, rWK0 hWK, rWK1 hWK, rWK2 hWK, rWK3 hWK, rWK4 hWK, rWK5 hWK, rWK6 hWK, rWK7 hWK, rWK8 hWK, kWK0, kWK1, kWK2, kWK3, kWK4, kWK5, kWK6, kWK7, kWK8, kWK9, kWK10, kWK11, kWK12, kWK13, kWK14, kWK15, kWK16, n70, fo, if_true, if_false]
    · by_cases c : s < 64
      · exact h1' s s0 c
      · rw [h1b s (by omega) s1, if_neg]
        rintro ⟨z1, -⟩
        unfold wSt at z1
        rw [if_neg c, hb] at z1
        simp at z1
end REACH
