/-! the class traces: the next plot -/
def LSm (C : Int → Prop) (v : Int) : Prop := (v = 64 ∧ ∀ q, ¬ C q) ∨ ((0 ≤ v ∧ v < 64) ∧ C v ∧ ∀ q, C q → v ≤ q)
def cl1 (m w : zM) (D : Int → Int) (H : Int → Bool) (p n q : Int) : Prop := H p = true ∧ ∃ d, 0 ≤ d ∧ d < n ∧ so m w D p d = true ∧ m 73 (4 * p + d) = q
def cl2 (m : zM) (D : Int → Int) (x n q : Int) : Prop := ∃ a k, 0 ≤ a ∧ a < n ∧ (k = -1 ∨ k = 1) ∧ ro m D x a k = true ∧ cSp m (a + k) = q
section TRACE3
variable {R m w : zM} {D : Int → Int} {H : Int → Bool} {p f x : Int}
theorem LSm_skip {C C' : Int → Prop} {v : Int} (h : LSm C v) (hc : ∀ q, C' q ↔ C q) : LSm C' v := by
  rcases h with ⟨a, b⟩ | ⟨a, b, c⟩
  · left; exact ⟨a, fun q z => b q ((hc q).1 z)⟩
  · right; exact ⟨a, (hc v).2 b, fun q z => c q ((hc q).1 z)⟩
theorem LSm_add {C C' : Int → Prop} {v b : Int} (h : LSm C v) (hc : ∀ q, C' q ↔ (C q ∨ q = b)) (hb : 0 ≤ b ∧ b < 64) : LSm C' (if b < v then b else v) := by
  right
  rcases h with ⟨h1, h2⟩ | ⟨h1, h2, h3⟩
  · rw [if_pos (by omega)]
    refine ⟨hb, (hc b).2 (Or.inr rfl), fun q z => ?_⟩
    rcases (hc q).1 z with r | r
    · exact absurd r (h2 q)
    · omega
  · by_cases c : b < v
    · rw [if_pos c]
      refine ⟨hb, (hc b).2 (Or.inr rfl), fun q z => ?_⟩
      rcases (hc q).1 z with r | r
      · have := h3 q r; omega
      · omega
    · rw [if_neg c]
      refine ⟨h1, (hc v).2 (Or.inl h2), fun q z => ?_⟩
      rcases (hc q).1 z with r | r
      · exact h3 q r
      · omega
theorem wSt_hb {s : Int} (h : wSt w s = true) (hs : 64 ≤ s) : w 100 56 ≠ 0 := by
  unfold wSt at h
  rw [if_neg (by omega)] at h
  simp only [Bool.and_eq_true, decide_eq_true_eq] at h
  exact h.2.1
theorem cSp_w (hW : WRs m w) (hS : wStop w) {b : Int} (hb : 0 ≤ b ∧ b < 24) (sb : wSt w (64 + b) = true) : cSp m b = wPl w (64 + b) := by
  have h := cSp_e hW (wSt_hb sb (by omega)) (s := 64 + b) (p := wPl w (64 + b)) (by omega) (hS (64 + b) (by omega) (by omega) sb).1
  rw [show 64 + b - 64 = b by omega] at h
  exact h.2 ⟨sb, rfl⟩
/-- moves by steps -/
theorem cl1_iff (hT : CTr m w D) (hH : HI w H p) (q : Int) : cl1 m w D H p 4 q ↔ ∃ s t, (0 ≤ s ∧ s < 64) ∧ (0 ≤ t ∧ t < 88) ∧ H s = true ∧ gC w D s t = true ∧ wPl w t = q := by
  obtain ⟨hL, hW, hC, hCr, hD⟩ := hT
  have hp := hH.1
  unfold cl1 so
  constructor
  · rintro ⟨h1, d, d0, d1, h2, h3⟩
    simp only [Bool.and_eq_true, decide_eq_true_eq] at h2
    have q1 := (cSt_e hL hW hp ⟨d0, d1⟩ h2.1).1
    exact ⟨p, m 73 (4 * p + d), hp, ⟨h2.1, by omega⟩, h1, h2.2, by rw [wPl_lo q1, h3]⟩
  · rintro ⟨s, t, hs, ht, h1, h2, h3⟩
    obtain ⟨ss, sp⟩ := hH.2 s hs.1 (by omega) h1
    rw [wPl_lo hs.2] at sp
    subst sp
    obtain ⟨g1, g2, g3, g4, g5⟩ := (gC_iff _ _).1 h2
    have t64 := g1.1 hs.2
    have hf : zfar (w 100 0) t s = 1 := by
      unfold wTk at g4
      rw [if_pos (show s < 64 ∧ t < 64 from ⟨hs.2, t64⟩)] at g4
      rw [zfar_s]
      split at g4
      next c => exact c
      next => omega
    obtain ⟨d, d0, d1, e⟩ := cSt_a hL hW hs ⟨ht.1, t64⟩ ss g3 hf
    refine ⟨h1, d, d0, d1, ?_, by rw [e, ← h3, wPl_lo t64]⟩
    simp only [Bool.and_eq_true, decide_eq_true_eq]
    rw [e]
    exact ⟨ht.1, h2⟩
/-- moves by rides -/
theorem cl2_iff (hT : CTr m w D) (hS : wStop w) (hH : HI w H p) (hA : AB H p f x) (t q : Int) : (∃ a k, 0 ≤ a ∧ a < 24 ∧ (k = -1 ∨ k = 1) ∧ ro m D x a k = true ∧ 64 + (a + k) = t ∧ cSp m (a + k) = q) ↔ ∃ s, (64 ≤ s ∧ s < 88) ∧ (0 ≤ t ∧ t < 88) ∧ H s = true ∧ gC w D s t = true ∧ wPl w t = q := by
  have hW := hT.2.1
  constructor
  · rintro ⟨a, k, a0, a1, hk, h1, h2, h3⟩
    obtain ⟨r1, r2, r3⟩ := (ro_iff hT hH hA hk ⟨a0, a1⟩).1 h1
    have sb := ((gC_iff _ _).1 r3).2.2.1
    rw [cSp_w hW hS r2 sb] at h3
    rw [h2] at r3 h3
    exact ⟨64 + a, by omega, by omega, r1, r3, h3⟩
  · rintro ⟨s, hs, ht, h1, h2, h3⟩
    obtain ⟨g1, g2, g3, g4, g5⟩ := (gC_iff _ _).1 h2
    have t64 : 64 ≤ t := by omega
    have nb : t - s = -1 ∨ t - s = 1 := by
      unfold wTk at g4
      rw [if_neg (by omega), if_pos (by omega)] at g4
      split at g4
      next c => omega
      next => omega
    have e1 : 64 + (s - 64) = s := by omega
    have e2 : 64 + (s - 64 + (t - s)) = t := by omega
    have e3 : s - 64 + (t - s) = t - 64 := by omega
    refine ⟨s - 64, t - s, by omega, by omega, nb, (ro_iff hT hH hA nb (by omega)).2 ?_, e2, ?_⟩
    · rw [e1, e2]; exact ⟨h1, by omega, h2⟩
    · have sb : wSt w (64 + (t - 64)) = true := by rw [show 64 + (t - 64) = t by omega]; exact g3
      rw [e3, cSp_w hW hS (by omega) sb, show 64 + (t - 64) = t by omega, h3]
theorem zcd_cls (hT : CTr m w D) (hS : wStop w) (hH : HI w H p) (hA : AB H p f x) (q : Int) : zcd w D H q = true ↔ (cl1 m w D H p 4 q ∨ cl2 m D x 24 q) := by
  rw [zcd_iff, cl1_iff hT hH]
  constructor
  · rintro ⟨s, t, hs, ht, h1, h2, h3⟩
    by_cases c : s < 64
    · left; exact ⟨s, t, ⟨hs.1, c⟩, ht, h1, h2, h3⟩
    · right
      obtain ⟨a, k, a0, a1, hk, r1, r2, r3⟩ := (cl2_iff hT hS hH hA t q).2 ⟨s, by omega, ht, h1, h2, h3⟩
      exact ⟨a, k, a0, a1, hk, r1, r3⟩
  · rintro (⟨s, t, hs, ht, h1, h2, h3⟩ | ⟨a, k, a0, a1, hk, r1, r3⟩)
    · exact ⟨s, t, ⟨hs.1, by omega⟩, ht, h1, h2, h3⟩
    · obtain ⟨s, hs, ht, h1, h2, h3⟩ := (cl2_iff hT hS hH hA (64 + (a + k)) q).1 ⟨a, k, a0, a1, hk, r1, rfl, r3⟩
      exact ⟨s, 64 + (a + k), by omega, ht, h1, h2, h3⟩
theorem LSm_zlst (hT : CTr m w D) (hS : wStop w) (hH : HI w H p) (hA : AB H p f x) {v : Int} (h : LSm (fun q => cl1 m w D H p 4 q ∨ cl2 m D x 24 q) v) : zlst w D H = if v < 64 then v else -1 := by
  have z := fun q => zcd_cls (D := D) hT hS hH hA q
  have k := zlst_ok (D := D) (H := H) hS
  rcases h with ⟨h1, h2⟩ | ⟨h1, h2, h3⟩
  · rw [if_neg (by omega)]
    rcases k with ⟨q, -⟩ | ⟨r1, ⟨s, t, a, b, c, d, e⟩, -⟩
    · exact q
    · exact absurd ((z _).1 ((zcd_iff _).2 ⟨s, t, a, b, c, d, e⟩)) (h2 _)
  · rw [if_pos h1.2]
    rcases k with ⟨-, q⟩ | ⟨r1, ⟨s, t, a, b, c, d, e⟩, r3⟩
    · obtain ⟨s, t, a, b, c, d, e⟩ := (zcd_iff _).1 ((z v).2 h2)
      exact absurd (q s t a.1 a.2 b.1 b.2 c d) (fun z => z)
    · have l1 := h3 _ ((z _).1 ((zcd_iff _).2 ⟨s, t, a, b, c, d, e⟩))
      obtain ⟨s', t', a', b', c', d', e'⟩ := (zcd_iff _).1 ((z v).2 h2)
      have l2 := r3 s' t' a'.1 a'.2 b'.1 b'.2 c' d'
      omega
theorem so_r (hT : CTr m w D) (hp : 0 ≤ p ∧ p < 64) {d : Int} (hd : 0 ≤ d ∧ d < 4) (h : so m w D p d = true) : 0 ≤ m 73 (4 * p + d) ∧ m 73 (4 * p + d) < 64 := by
  unfold so at h
  simp only [Bool.and_eq_true, decide_eq_true_eq] at h
  exact ⟨h.1, (cSt_e hT.1 hT.2.1 hp hd h.1).1⟩
theorem ro_r (hT : CTr m w D) (hS : wStop w) (hH : HI w H p) (hA : AB H p f x) {a k : Int} (hk : k = -1 ∨ k = 1) (ha : 0 ≤ a ∧ a < 24) (h : ro m D x a k = true) : (0 ≤ a + k ∧ a + k < 24) ∧ 0 ≤ cSp m (a + k) ∧ cSp m (a + k) < 64 := by
  obtain ⟨r1, r2, r3⟩ := (ro_iff hT hH hA hk ha).1 h
  have sb := ((gC_iff _ _).1 r3).2.2.1
  rw [cSp_w hT.2.1 hS r2 sb]
  exact ⟨r2, hS (64 + (a + k)) (by omega) (by omega) sb⟩
theorem ro_0 (a k : Int) : ro m D 0 a k = false := by
  unfold ro
  rw [ybt_0, Bool.false_and, Bool.and_false]
theorem tz_nextPlot (hWK : WK R) (hT : CTr m w D) (hS : wStop w) (hH : HI w H p) (hA : AB H p (m 70 13) (m 70 14)) : ev 168 0 [(2, 70), (0, p), (9, 0), (9, 0)] [] R m = some ((0, zlst w D H), R, m) := by
  have hp := hH.1
  have SO := fun d (h : 0 ≤ d ∧ d < 4) => tz_isStepOn hWK hT hp h
  have SE := fun d (h : 0 ≤ d ∧ d < 4) => tz_stepEnd (m := m) hWK hp h
  have RO := fun a k (h : 0 ≤ a ∧ a < 24) (hk : k = -1 ∨ k = 1) => tz_isRideOn hWK hT h hk
  have SP := fun a => tz_stopPlot (m := m) hWK a
  have L0 : ev 168 0 [(2, 70), (0, p), (9, 0), (9, 0)] [] R m = ev 168 5 [(2, 70), (0, p), (0, 64), (0, 0)] [] R m := by
    simp only [s168_0, s168_2, s168_3, s168_4, s168_6, s168_9, s168_12, s168_13, s168_14, s168_17, s168_18, s168_19, s168_20, s168_23, s168_26, s168_27, s168_28, s168_29, s168_30, s168_33, s168_36, s168_37, s168_40, s168_43, s168_44, s168_46, s168_49, s168_52, s168_53, s168_55, s168_58, s168_59, s168_60, s168_61, s168_64, s168_67, s168_68, s168_69, s168_70, s168_71, s168_72, s168_75, s168_78, s168_79, s168_80, s168_81, s168_82, s168_85, s168_88, s168_89, s168_90, s168_91, s168_92, s168_93, s168_96, s168_99, s168_100, s168_103, s168_106, s168_107, s168_109, s168_112, s168_113, s168_116, s168_117, zps_0, zps_1, zps_2, zps_3, zps_9, Option.bind_some, Option.bind_none, Int.reduceEq, Int.reduceNe, Int.reduceLT, Int.reduceLE, Int.reduceNeg, Int.reduceAdd, Int.reduceSub, Int.reduceMul, reduceIte, if_true, if_false, true_and, and_true, false_and, and_false, or_true, true_or, or_false, false_or, not_true_eq_false, not_false_eq_true, ite_not, z_b0, z_b1, z_b01, rWK0 hWK, rWK1 hWK, rWK2 hWK, rWK3 hWK, rWK4 hWK, rWK5 hWK, rWK6 hWK, rWK7 hWK, rWK8 hWK, kWK0, kWK1, kWK2, kWK3, kWK4, kWK5, kWK6, kWK7, kWK8, kWK9, kWK10, kWK11, kWK12, kWK13, kWK14, kWK15, kWK16]
  have L1 : ∃ v : Int, ev 168 5 [(2, 70), (0, p), (0, 64), (0, 0)] [] R m = ev 168 45 [(2, 70), (0, p), (0, v), (0, 0)] [] R m ∧ LSm (fun q => cl1 m w D H p 4 q) v := by
    by_cases c : H p = true
    · have c13 : ¬ m 70 13 = 0 := by rw [hA.1, if_pos c]; decide
      refine zloop (fun r => ∃ v : Int, r = ev 168 45 [(2, 70), (0, p), (0, v), (0, 0)] [] R m ∧ LSm (fun q => cl1 m w D H p 4 q) v) (fun d (v : Int) => ev 168 5 [(2, 70), (0, p), (0, v), (0, d)] [] R m) 4 (fun d v => 0 ≤ d ∧ LSm (fun q => cl1 m w D H p d q) v) ?_ ?_ 0 64 (by omega) ⟨by omega, Or.inl ⟨rfl, fun q ⟨_, d, a, b, _⟩ => by omega⟩⟩
      · rintro d v hd ⟨d0, hI⟩ ih
        have c1 : ¬ 4 ≤ d := by omega
        have z : zw (d + 1) = d + 1 := zw_i (by omega) (by omega)
        have S1 := SO d ⟨d0, hd⟩
        have S2 := SE d ⟨d0, hd⟩
        rw [s168_5]
        by_cases o : so m w D p d = true
        · rw [if_pos o] at S1
          have r := so_r hT hp ⟨d0, hd⟩ o
          simp only [s168_0, s168_2, s168_3, s168_4, s168_6, s168_9, s168_12, s168_13, s168_14, s168_17, s168_18, s168_19, s168_20, s168_23, s168_26, s168_27, s168_28, s168_29, s168_30, s168_33, s168_36, s168_37, s168_40, s168_43, s168_44, s168_46, s168_49, s168_52, s168_53, s168_55, s168_58, s168_59, s168_60, s168_61, s168_64, s168_67, s168_68, s168_69, s168_70, s168_71, s168_72, s168_75, s168_78, s168_79, s168_80, s168_81, s168_82, s168_85, s168_88, s168_89, s168_90, s168_91, s168_92, s168_93, s168_96, s168_99, s168_100, s168_103, s168_106, s168_107, s168_109, s168_112, s168_113, s168_116, s168_117, zps_0, zps_1, zps_2, zps_3, zps_9, Option.bind_some, Option.bind_none, Int.reduceEq, Int.reduceNe, Int.reduceLT, Int.reduceLE, Int.reduceNeg, Int.reduceAdd, Int.reduceSub, Int.reduceMul, reduceIte, if_true, if_false, true_and, and_true, false_and, and_false, or_true, true_or, or_false, false_or, not_true_eq_false, not_false_eq_true, ite_not, z_b0, z_b1, z_b01, rWK0 hWK, rWK1 hWK, rWK2 hWK, rWK3 hWK, rWK4 hWK, rWK5 hWK, rWK6 hWK, rWK7 hWK, rWK8 hWK, kWK0, kWK1, kWK2, kWK3, kWK4, kWK5, kWK6, kWK7, kWK8, kWK9, kWK10, kWK11, kWK12, kWK13, kWK14, kWK15, kWK16, c13, hd, c1, S1, S2, z, if_true, if_false]
          refine ih _ ⟨by omega, LSm_add hI (fun q => ?_) r⟩
          unfold cl1
          constructor
          · rintro ⟨h1, e, e0, e1, h2, h3⟩
            by_cases q2 : e = d
            · right; rw [← h3, q2]
            · left; exact ⟨h1, e, e0, by omega, h2, h3⟩
          · rintro (⟨h1, e, e0, e1, h2, h3⟩ | h)
            · exact ⟨h1, e, e0, by omega, h2, h3⟩
            · exact ⟨c, d, d0, by omega, o, h.symm⟩
        · rw [if_neg o] at S1
          simp only [s168_0, s168_2, s168_3, s168_4, s168_6, s168_9, s168_12, s168_13, s168_14, s168_17, s168_18, s168_19, s168_20, s168_23, s168_26, s168_27, s168_28, s168_29, s168_30, s168_33, s168_36, s168_37, s168_40, s168_43, s168_44, s168_46, s168_49, s168_52, s168_53, s168_55, s168_58, s168_59, s168_60, s168_61, s168_64, s168_67, s168_68, s168_69, s168_70, s168_71, s168_72, s168_75, s168_78, s168_79, s168_80, s168_81, s168_82, s168_85, s168_88, s168_89, s168_90, s168_91, s168_92, s168_93, s168_96, s168_99, s168_100, s168_103, s168_106, s168_107, s168_109, s168_112, s168_113, s168_116, s168_117, zps_0, zps_1, zps_2, zps_3, zps_9, Option.bind_some, Option.bind_none, Int.reduceEq, Int.reduceNe, Int.reduceLT, Int.reduceLE, Int.reduceNeg, Int.reduceAdd, Int.reduceSub, Int.reduceMul, reduceIte, if_true, if_false, true_and, and_true, false_and, and_false, or_true, true_or, or_false, false_or, not_true_eq_false, not_false_eq_true, ite_not, z_b0, z_b1, z_b01, rWK0 hWK, rWK1 hWK, rWK2 hWK, rWK3 hWK, rWK4 hWK, rWK5 hWK, rWK6 hWK, rWK7 hWK, rWK8 hWK, kWK0, kWK1, kWK2, kWK3, kWK4, kWK5, kWK6, kWK7, kWK8, kWK9, kWK10, kWK11, kWK12, kWK13, kWK14, kWK15, kWK16, c13, hd, c1, S1, z, if_true, if_false]
          refine ih _ ⟨by omega, LSm_skip hI (fun q => ?_)⟩
          unfold cl1
          constructor
          · rintro ⟨h1, e, e0, e1, h2, h3⟩
            by_cases q2 : e = d
            · rw [q2] at h2; exact absurd h2 o
            · exact ⟨h1, e, e0, by omega, h2, h3⟩
          · rintro ⟨h1, e, e0, e1, h2, h3⟩
            exact ⟨h1, e, e0, by omega, h2, h3⟩
      · rintro v ⟨-, hI⟩
        refine ⟨v, ?_, hI⟩
        rw [s168_5]
        simp only [s168_0, s168_2, s168_3, s168_4, s168_6, s168_9, s168_12, s168_13, s168_14, s168_17, s168_18, s168_19, s168_20, s168_23, s168_26, s168_27, s168_28, s168_29, s168_30, s168_33, s168_36, s168_37, s168_40, s168_43, s168_44, s168_46, s168_49, s168_52, s168_53, s168_55, s168_58, s168_59, s168_60, s168_61, s168_64, s168_67, s168_68, s168_69, s168_70, s168_71, s168_72, s168_75, s168_78, s168_79, s168_80, s168_81, s168_82, s168_85, s168_88, s168_89, s168_90, s168_91, s168_92, s168_93, s168_96, s168_99, s168_100, s168_103, s168_106, s168_107, s168_109, s168_112, s168_113, s168_116, s168_117, zps_0, zps_1, zps_2, zps_3, zps_9, Option.bind_some, Option.bind_none, Int.reduceEq, Int.reduceNe, Int.reduceLT, Int.reduceLE, Int.reduceNeg, Int.reduceAdd, Int.reduceSub, Int.reduceMul, reduceIte, if_true, if_false, true_and, and_true, false_and, and_false, or_true, true_or, or_false, false_or, not_true_eq_false, not_false_eq_true, ite_not, z_b0, z_b1, z_b01, rWK0 hWK, rWK1 hWK, rWK2 hWK, rWK3 hWK, rWK4 hWK, rWK5 hWK, rWK6 hWK, rWK7 hWK, rWK8 hWK, kWK0, kWK1, kWK2, kWK3, kWK4, kWK5, kWK6, kWK7, kWK8, kWK9, kWK10, kWK11, kWK12, kWK13, kWK14, kWK15, kWK16, c13, if_true, if_false]
    · have c13 : m 70 13 = 0 := by rw [hA.1, if_neg c]
      refine ⟨64, ?_, Or.inl ⟨rfl, fun q h => c h.1⟩⟩
      rw [s168_5]
      simp only [s168_0, s168_2, s168_3, s168_4, s168_6, s168_9, s168_12, s168_13, s168_14, s168_17, s168_18, s168_19, s168_20, s168_23, s168_26, s168_27, s168_28, s168_29, s168_30, s168_33, s168_36, s168_37, s168_40, s168_43, s168_44, s168_46, s168_49, s168_52, s168_53, s168_55, s168_58, s168_59, s168_60, s168_61, s168_64, s168_67, s168_68, s168_69, s168_70, s168_71, s168_72, s168_75, s168_78, s168_79, s168_80, s168_81, s168_82, s168_85, s168_88, s168_89, s168_90, s168_91, s168_92, s168_93, s168_96, s168_99, s168_100, s168_103, s168_106, s168_107, s168_109, s168_112, s168_113, s168_116, s168_117, zps_0, zps_1, zps_2, zps_3, zps_9, Option.bind_some, Option.bind_none, Int.reduceEq, Int.reduceNe, Int.reduceLT, Int.reduceLE, Int.reduceNeg, Int.reduceAdd, Int.reduceSub, Int.reduceMul, reduceIte, if_true, if_false, true_and, and_true, false_and, and_false, or_true, true_or, or_false, false_or, not_true_eq_false, not_false_eq_true, ite_not, z_b0, z_b1, z_b01, rWK0 hWK, rWK1 hWK, rWK2 hWK, rWK3 hWK, rWK4 hWK, rWK5 hWK, rWK6 hWK, rWK7 hWK, rWK8 hWK, kWK0, kWK1, kWK2, kWK3, kWK4, kWK5, kWK6, kWK7, kWK8, kWK9, kWK10, kWK11, kWK12, kWK13, kWK14, kWK15, kWK16, c13, if_true, if_false]
  obtain ⟨v1, e1, h1⟩ := L1
  have FIN : ∀ v l3 : Int, LSm (fun q => cl1 m w D H p 4 q ∨ cl2 m D (m 70 14) 24 q) v → ev 168 106 [(2, 70), (0, p), (0, v), (0, l3)] [] R m = some ((0, zlst w D H), R, m) := by
    intro v l3 h
    rw [LSm_zlst hT hS hH hA h]
    by_cases c : v < 64
    · have c' : ¬ 64 ≤ v := by omega
      simp only [s168_0, s168_2, s168_3, s168_4, s168_6, s168_9, s168_12, s168_13, s168_14, s168_17, s168_18, s168_19, s168_20, s168_23, s168_26, s168_27, s168_28, s168_29, s168_30, s168_33, s168_36, s168_37, s168_40, s168_43, s168_44, s168_46, s168_49, s168_52, s168_53, s168_55, s168_58, s168_59, s168_60, s168_61, s168_64, s168_67, s168_68, s168_69, s168_70, s168_71, s168_72, s168_75, s168_78, s168_79, s168_80, s168_81, s168_82, s168_85, s168_88, s168_89, s168_90, s168_91, s168_92, s168_93, s168_96, s168_99, s168_100, s168_103, s168_106, s168_107, s168_109, s168_112, s168_113, s168_116, s168_117, zps_0, zps_1, zps_2, zps_3, zps_9, Option.bind_some, Option.bind_none, Int.reduceEq, Int.reduceNe, Int.reduceLT, Int.reduceLE, Int.reduceNeg, Int.reduceAdd, Int.reduceSub, Int.reduceMul, reduceIte, if_true, if_false, true_and, and_true, false_and, and_false, or_true, true_or, or_false, false_or, not_true_eq_false, not_false_eq_true, ite_not, z_b0, z_b1, z_b01, rWK0 hWK, rWK1 hWK, rWK2 hWK, rWK3 hWK, rWK4 hWK, rWK5 hWK, rWK6 hWK, rWK7 hWK, rWK8 hWK, kWK0, kWK1, kWK2, kWK3, kWK4, kWK5, kWK6, kWK7, kWK8, kWK9, kWK10, kWK11, kWK12, kWK13, kWK14, kWK15, kWK16, c, c', if_true, if_false]
    · have c' : 64 ≤ v := by omega
      simp only [s168_0, s168_2, s168_3, s168_4, s168_6, s168_9, s168_12, s168_13, s168_14, s168_17, s168_18, s168_19, s168_20, s168_23, s168_26, s168_27, s168_28, s168_29, s168_30, s168_33, s168_36, s168_37, s168_40, s168_43, s168_44, s168_46, s168_49, s168_52, s168_53, s168_55, s168_58, s168_59, s168_60, s168_61, s168_64, s168_67, s168_68, s168_69, s168_70, s168_71, s168_72, s168_75, s168_78, s168_79, s168_80, s168_81, s168_82, s168_85, s168_88, s168_89, s168_90, s168_91, s168_92, s168_93, s168_96, s168_99, s168_100, s168_103, s168_106, s168_107, s168_109, s168_112, s168_113, s168_116, s168_117, zps_0, zps_1, zps_2, zps_3, zps_9, Option.bind_some, Option.bind_none, Int.reduceEq, Int.reduceNe, Int.reduceLT, Int.reduceLE, Int.reduceNeg, Int.reduceAdd, Int.reduceSub, Int.reduceMul, reduceIte, if_true, if_false, true_and, and_true, false_and, and_false, or_true, true_or, or_false, false_or, not_true_eq_false, not_false_eq_true, ite_not, z_b0, z_b1, z_b01, rWK0 hWK, rWK1 hWK, rWK2 hWK, rWK3 hWK, rWK4 hWK, rWK5 hWK, rWK6 hWK, rWK7 hWK, rWK8 hWK, kWK0, kWK1, kWK2, kWK3, kWK4, kWK5, kWK6, kWK7, kWK8, kWK9, kWK10, kWK11, kWK12, kWK13, kWK14, kWK15, kWK16, c, c', if_true, if_false]
  rw [L0, e1]
  by_cases cx : m 70 14 = 0
  · have : ev 168 45 [(2, 70), (0, p), (0, v1), (0, 0)] [] R m = ev 168 106 [(2, 70), (0, p), (0, v1), (0, 0)] [] R m := by
      rw [s168_45]
      simp only [s168_0, s168_2, s168_3, s168_4, s168_6, s168_9, s168_12, s168_13, s168_14, s168_17, s168_18, s168_19, s168_20, s168_23, s168_26, s168_27, s168_28, s168_29, s168_30, s168_33, s168_36, s168_37, s168_40, s168_43, s168_44, s168_46, s168_49, s168_52, s168_53, s168_55, s168_58, s168_59, s168_60, s168_61, s168_64, s168_67, s168_68, s168_69, s168_70, s168_71, s168_72, s168_75, s168_78, s168_79, s168_80, s168_81, s168_82, s168_85, s168_88, s168_89, s168_90, s168_91, s168_92, s168_93, s168_96, s168_99, s168_100, s168_103, s168_107, s168_109, s168_112, s168_113, s168_116, s168_117, zps_0, zps_1, zps_2, zps_3, zps_9, Option.bind_some, Option.bind_none, Int.reduceEq, Int.reduceNe, Int.reduceLT, Int.reduceLE, Int.reduceNeg, Int.reduceAdd, Int.reduceSub, Int.reduceMul, reduceIte, if_true, if_false, true_and, and_true, false_and, and_false, or_true, true_or, or_false, false_or, not_true_eq_false, not_false_eq_true, ite_not, z_b0, z_b1, z_b01, rWK0 hWK, rWK1 hWK, rWK2 hWK, rWK3 hWK, rWK4 hWK, rWK5 hWK, rWK6 hWK, rWK7 hWK, rWK8 hWK, kWK0, kWK1, kWK2, kWK3, kWK4, kWK5, kWK6, kWK7, kWK8, kWK9, kWK10, kWK11, kWK12, kWK13, kWK14, kWK15, kWK16, cx, if_true, if_false]
    rw [this]
    refine FIN v1 0 (LSm_skip h1 (fun q => ⟨fun h => h.elim id (fun ⟨a, k, _, _, _, h, _⟩ => by rw [cx, ro_0] at h; cases h), Or.inl⟩))
  · refine zloop (fun r => r = some ((0, zlst w D H), R, m)) (fun a (v : Int) => ev 168 45 [(2, 70), (0, p), (0, v), (0, a)] [] R m) 24 (fun a v => 0 ≤ a ∧ LSm (fun q => cl1 m w D H p 4 q ∨ cl2 m D (m 70 14) a q) v) ?_ ?_ 0 v1 (by omega) ⟨by omega, LSm_skip h1 (fun q => ⟨fun h => h.elim id (fun ⟨a, k, _, _, _⟩ => by omega), Or.inl⟩)⟩
    · rintro a v ha ⟨a0, hI⟩ ih
      have c1 : ¬ 24 ≤ a := by omega
      have z : zw (a + 1) = a + 1 := zw_i (by omega) (by omega)
      have zm : zw (a - 1) = a - 1 := zw_i (by omega) (by omega)
      have R1 := RO a (-1) ⟨a0, ha⟩ (Or.inl rfl)
      have R2 := RO a 1 ⟨a0, ha⟩ (Or.inr rfl)
      have HALF : ∃ v2 : Int, ev 168 45 [(2, 70), (0, p), (0, v), (0, a)] [] R m = ev 168 79 [(2, 70), (0, p), (0, v2), (0, a)] [] R m ∧ LSm (fun q => (cl1 m w D H p 4 q ∨ cl2 m D (m 70 14) a q) ∨ (ro m D (m 70 14) a (-1) = true ∧ cSp m (a - 1) = q)) v2 := by
        by_cases o : ro m D (m 70 14) a (-1) = true
        · rw [if_pos o] at R1
          have r := ro_r hT hS hH hA (Or.inl rfl) ⟨a0, ha⟩ o
          rw [show a + -1 = a - 1 by omega] at r
          refine ⟨if cSp m (a - 1) < v then cSp m (a - 1) else v, ?_, LSm_add hI (fun q => ⟨fun h => h.elim Or.inl (fun h => Or.inr h.2.symm), fun h => h.elim Or.inl (fun h => Or.inr ⟨o, h.symm⟩)⟩) r.2⟩
          rw [s168_45]
          simp only [s168_0, s168_2, s168_3, s168_4, s168_6, s168_9, s168_12, s168_13, s168_14, s168_17, s168_18, s168_19, s168_20, s168_23, s168_26, s168_27, s168_28, s168_29, s168_30, s168_33, s168_36, s168_37, s168_40, s168_43, s168_44, s168_46, s168_49, s168_52, s168_53, s168_55, s168_58, s168_59, s168_60, s168_61, s168_64, s168_67, s168_68, s168_69, s168_70, s168_71, s168_72, s168_75, s168_78, s168_80, s168_81, s168_82, s168_85, s168_88, s168_89, s168_90, s168_91, s168_92, s168_93, s168_96, s168_99, s168_100, s168_103, s168_106, s168_107, s168_109, s168_112, s168_113, s168_116, s168_117, zps_0, zps_1, zps_2, zps_3, zps_9, Option.bind_some, Option.bind_none, Int.reduceEq, Int.reduceNe, Int.reduceLT, Int.reduceLE, Int.reduceNeg, Int.reduceAdd, Int.reduceSub, Int.reduceMul, reduceIte, if_true, if_false, true_and, and_true, false_and, and_false, or_true, true_or, or_false, false_or, not_true_eq_false, not_false_eq_true, ite_not, z_b0, z_b1, z_b01, rWK0 hWK, rWK1 hWK, rWK2 hWK, rWK3 hWK, rWK4 hWK, rWK5 hWK, rWK6 hWK, rWK7 hWK, rWK8 hWK, kWK0, kWK1, kWK2, kWK3, kWK4, kWK5, kWK6, kWK7, kWK8, kWK9, kWK10, kWK11, kWK12, kWK13, kWK14, kWK15, kWK16, cx, ha, c1, R1, SP, zm, if_true, if_false]
        · rw [if_neg o] at R1
          refine ⟨v, ?_, LSm_skip hI (fun q => ⟨fun h => h.elim id (fun h => absurd h.1 o), Or.inl⟩)⟩
          rw [s168_45]
          simp only [s168_0, s168_2, s168_3, s168_4, s168_6, s168_9, s168_12, s168_13, s168_14, s168_17, s168_18, s168_19, s168_20, s168_23, s168_26, s168_27, s168_28, s168_29, s168_30, s168_33, s168_36, s168_37, s168_40, s168_43, s168_44, s168_46, s168_49, s168_52, s168_53, s168_55, s168_58, s168_59, s168_60, s168_61, s168_64, s168_67, s168_68, s168_69, s168_70, s168_71, s168_72, s168_75, s168_78, s168_80, s168_81, s168_82, s168_85, s168_88, s168_89, s168_90, s168_91, s168_92, s168_93, s168_96, s168_99, s168_100, s168_103, s168_106, s168_107, s168_109, s168_112, s168_113, s168_116, s168_117, zps_0, zps_1, zps_2, zps_3, zps_9, Option.bind_some, Option.bind_none, Int.reduceEq, Int.reduceNe, Int.reduceLT, Int.reduceLE, Int.reduceNeg, Int.reduceAdd, Int.reduceSub, Int.reduceMul, reduceIte, if_true, if_false, true_and, and_true, false_and, and_false, or_true, true_or, or_false, false_or, not_true_eq_false, not_false_eq_true, ite_not, z_b0, z_b1, z_b01, rWK0 hWK, rWK1 hWK, rWK2 hWK, rWK3 hWK, rWK4 hWK, rWK5 hWK, rWK6 hWK, rWK7 hWK, rWK8 hWK, kWK0, kWK1, kWK2, kWK3, kWK4, kWK5, kWK6, kWK7, kWK8, kWK9, kWK10, kWK11, kWK12, kWK13, kWK14, kWK15, kWK16, cx, ha, c1, R1, if_true, if_false]
      obtain ⟨v2, e2, h2⟩ := HALF
      rw [e2]
      have cl2s : ∀ q, cl2 m D (m 70 14) (a + 1) q ↔ (cl2 m D (m 70 14) a q ∨ (ro m D (m 70 14) a (-1) = true ∧ cSp m (a - 1) = q) ∨ (ro m D (m 70 14) a 1 = true ∧ cSp m (a + 1) = q)) := by
        intro q
        unfold cl2
        constructor
        · rintro ⟨b, k, b0, b1, hk, g1, g2⟩
          by_cases e : b = a
          · rw [e] at g1 g2
            rcases hk with k1 | k1
            · rw [k1] at g1 g2; right; left; exact ⟨g1, by rw [show a - 1 = a + -1 by omega]; exact g2⟩
            · rw [k1] at g1 g2; right; right; exact ⟨g1, g2⟩
          · left; exact ⟨b, k, b0, by omega, hk, g1, g2⟩
        · rintro (⟨b, k, b0, b1, hk, g1, g2⟩ | ⟨g1, g2⟩ | ⟨g1, g2⟩)
          · exact ⟨b, k, b0, by omega, hk, g1, g2⟩
          · exact ⟨a, -1, a0, by omega, Or.inl rfl, g1, by rw [show a + -1 = a - 1 by omega]; exact g2⟩
          · exact ⟨a, 1, a0, by omega, Or.inr rfl, g1, g2⟩
      by_cases o : ro m D (m 70 14) a 1 = true
      · rw [if_pos o] at R2
        have r := ro_r hT hS hH hA (Or.inr rfl) ⟨a0, ha⟩ o
        simp only [s168_0, s168_2, s168_3, s168_4, s168_6, s168_9, s168_12, s168_13, s168_14, s168_17, s168_18, s168_19, s168_20, s168_23, s168_26, s168_27, s168_28, s168_29, s168_30, s168_33, s168_36, s168_37, s168_40, s168_43, s168_44, s168_46, s168_49, s168_52, s168_53, s168_55, s168_58, s168_59, s168_60, s168_61, s168_64, s168_67, s168_68, s168_69, s168_70, s168_71, s168_72, s168_75, s168_78, s168_79, s168_80, s168_81, s168_82, s168_85, s168_88, s168_89, s168_90, s168_91, s168_92, s168_93, s168_96, s168_99, s168_100, s168_103, s168_106, s168_107, s168_109, s168_112, s168_113, s168_116, s168_117, zps_0, zps_1, zps_2, zps_3, zps_9, Option.bind_some, Option.bind_none, Int.reduceEq, Int.reduceNe, Int.reduceLT, Int.reduceLE, Int.reduceNeg, Int.reduceAdd, Int.reduceSub, Int.reduceMul, reduceIte, if_true, if_false, true_and, and_true, false_and, and_false, or_true, true_or, or_false, false_or, not_true_eq_false, not_false_eq_true, ite_not, z_b0, z_b1, z_b01, rWK0 hWK, rWK1 hWK, rWK2 hWK, rWK3 hWK, rWK4 hWK, rWK5 hWK, rWK6 hWK, rWK7 hWK, rWK8 hWK, kWK0, kWK1, kWK2, kWK3, kWK4, kWK5, kWK6, kWK7, kWK8, kWK9, kWK10, kWK11, kWK12, kWK13, kWK14, kWK15, kWK16, R2, SP, z, if_true, if_false]
        refine ih _ ⟨by omega, LSm_add h2 (fun q => ?_) r.2⟩
        rw [cl2s]
        constructor
        · rintro (g | g | g | g)
          · exact Or.inl (Or.inl (Or.inl g))
          · exact Or.inl (Or.inl (Or.inr g))
          · exact Or.inl (Or.inr g)
          · exact Or.inr g.2.symm
        · rintro (((g | g) | g) | g)
          · exact Or.inl g
          · exact Or.inr (Or.inl g)
          · exact Or.inr (Or.inr (Or.inl g))
          · exact Or.inr (Or.inr (Or.inr ⟨o, g.symm⟩))
      · rw [if_neg o] at R2
        simp only [s168_0, s168_2, s168_3, s168_4, s168_6, s168_9, s168_12, s168_13, s168_14, s168_17, s168_18, s168_19, s168_20, s168_23, s168_26, s168_27, s168_28, s168_29, s168_30, s168_33, s168_36, s168_37, s168_40, s168_43, s168_44, s168_46, s168_49, s168_52, s168_53, s168_55, s168_58, s168_59, s168_60, s168_61, s168_64, s168_67, s168_68, s168_69, s168_70, s168_71, s168_72, s168_75, s168_78, s168_79, s168_80, s168_81, s168_82, s168_85, s168_88, s168_89, s168_90, s168_91, s168_92, s168_93, s168_96, s168_99, s168_100, s168_103, s168_106, s168_107, s168_109, s168_112, s168_113, s168_116, s168_117, zps_0, zps_1, zps_2, zps_3, zps_9, Option.bind_some, Option.bind_none, Int.reduceEq, Int.reduceNe, Int.reduceLT, Int.reduceLE, Int.reduceNeg, Int.reduceAdd, Int.reduceSub, Int.reduceMul, reduceIte, if_true, if_false, true_and, and_true, false_and, and_false, or_true, true_or, or_false, false_or, not_true_eq_false, not_false_eq_true, ite_not, z_b0, z_b1, z_b01, rWK0 hWK, rWK1 hWK, rWK2 hWK, rWK3 hWK, rWK4 hWK, rWK5 hWK, rWK6 hWK, rWK7 hWK, rWK8 hWK, kWK0, kWK1, kWK2, kWK3, kWK4, kWK5, kWK6, kWK7, kWK8, kWK9, kWK10, kWK11, kWK12, kWK13, kWK14, kWK15, kWK16, R2, z, if_true, if_false]
        refine ih _ ⟨by omega, LSm_skip h2 (fun q => ?_)⟩
        rw [cl2s]
        constructor
        · rintro (g | g | g | g)
          · exact Or.inl (Or.inl g)
          · exact Or.inl (Or.inr g)
          · exact Or.inr g
          · exact absurd g.1 o
        · rintro ((g | g) | g)
          · exact Or.inl g
          · exact Or.inr (Or.inl g)
          · exact Or.inr (Or.inr (Or.inl g))
    · rintro v ⟨-, hI⟩
      have : ev 168 45 [(2, 70), (0, p), (0, v), (0, 24)] [] R m = ev 168 106 [(2, 70), (0, p), (0, v), (0, 24)] [] R m := by
        rw [s168_45]
        simp only [s168_0, s168_2, s168_3, s168_4, s168_6, s168_9, s168_12, s168_13, s168_14, s168_17, s168_18, s168_19, s168_20, s168_23, s168_26, s168_27, s168_28, s168_29, s168_30, s168_33, s168_36, s168_37, s168_40, s168_43, s168_44, s168_46, s168_49, s168_52, s168_53, s168_55, s168_58, s168_59, s168_60, s168_61, s168_64, s168_67, s168_68, s168_69, s168_70, s168_71, s168_72, s168_75, s168_78, s168_79, s168_80, s168_81, s168_82, s168_85, s168_88, s168_89, s168_90, s168_91, s168_92, s168_93, s168_96, s168_99, s168_100, s168_103, s168_107, s168_109, s168_112, s168_113, s168_116, s168_117, zps_0, zps_1, zps_2, zps_3, zps_9, Option.bind_some, Option.bind_none, Int.reduceEq, Int.reduceNe, Int.reduceLT, Int.reduceLE, Int.reduceNeg, Int.reduceAdd, Int.reduceSub, Int.reduceMul, reduceIte, if_true, if_false, true_and, and_true, false_and, and_false, or_true, true_or, or_false, false_or, not_true_eq_false, not_false_eq_true, ite_not, z_b0, z_b1, z_b01, rWK0 hWK, rWK1 hWK, rWK2 hWK, rWK3 hWK, rWK4 hWK, rWK5 hWK, rWK6 hWK, rWK7 hWK, rWK8 hWK, kWK0, kWK1, kWK2, kWK3, kWK4, kWK5, kWK6, kWK7, kWK8, kWK9, kWK10, kWK11, kWK12, kWK13, kWK14, kWK15, kWK16, cx, if_true, if_false]
      rw [this]
      exact FIN v 24 hI
end TRACE3
