/-! the class measures -/
theorem zsh_o {f : Int → Int} {q t s : Int} (c : Prop) [Decidable c] (h : s ≠ q) : (if c then zrw f q t else f) s = f s := by
  split
  · exact zrw_ne h
  · rfl
theorem WRs_c {m m' w : zM} (h : ∀ b, 3 ≤ b → b ≤ 8 → m' b = m b) (h1 : m' 70 1 = m 70 1) (h71 : m' 71 = m 71) (h72 : m' 72 = m 72) (hW : WRs m w) : WRs m' w := by
  obtain ⟨a, b, c, d, e⟩ := hW
  refine ⟨RB_c (fun q q0 q1 => h q (by omega) (by omega)) rfl rfl rfl rfl rfl a, by rw [h1]; exact b, by rw [h72]; exact c, d, by rw [h71, h72]; exact e⟩
theorem zdt_88 (st : Int → Bool) (tk : Int → Int → Int) (to : Int) : zpk (zdt (zds st tk) 88 (zd0 st to)).1 (zdt (zds st tk) 88 (zd0 st to)).2 88 = -4 := by
  obtain ⟨k, k88, hk⟩ := zdf_ex (st := st) (tk := tk) (to := to)
  have fx := zds_fix (st := st) (tk := tk) hk
  have := zdt_add (zds st tk) (88 - k) k (zd0 st to)
  rw [show 88 - k + k = 88 by omega, zdt_fix fx] at this
  rw [this]
  exact hk
section MEASURE
variable {R m w : zM}
theorem tz_reachAboard (hWK : WK R) (hB : BK R 3) (hW : WRs m w) {a : Int} (ha : 0 ≤ a ∧ a < 24) (sb : wSt w (64 + a) = true) (hT : 0 ≤ m 76 (64 + a) ∧ m 76 (64 + a) ≤ 200000) : ∃ f : Int → Int, ev 162 0 [(2, 70), (0, a), (9, 0), (9, 0), (9, 0), (9, 0)] [] R m = some ((9, 0), R, zpr m 76 f) ∧ ∀ s, 0 ≤ s → s < 88 → f s = if wSt w s = true ∧ wTk w s (64 + a) < 1000000 ∧ m 76 (64 + a) + wTk w s (64 + a) < m 76 s then m 76 (64 + a) + wTk w s (64 + a) else m 76 s := by
  obtain ⟨T, hTT⟩ : ∃ T, m 76 (64 + a) = T := ⟨_, rfl⟩
  rw [hTT] at hT ⊢
  have hK3 := hB.1
  have sb' := sb
  unfold wSt at sb'
  rw [if_neg (by omega)] at sb'
  simp only [Bool.and_eq_true, decide_eq_true_eq] at sb'
  rw [show 64 + a - 64 = a by omega] at sb'
  obtain ⟨-, hb, t1, t2⟩ := sb'
  have e72 : m 72 (a / 6) = w 131 (a / 6) := by rw [hW.2.2.1 _ (by omega) (by omega), if_pos t1]
  have sm := hW.2.2.2.1 (a / 6) (by omega) t1
  have pl : cSp m a = wPl w (64 + a) ∧ 0 ≤ wPl w (64 + a) ∧ wPl w (64 + a) < mN w := by
    have := hW.2.2.2.2 a ha.1 ha.2 (by rw [e72]; exact t2)
    unfold cSp wPl
    rw [if_pos ⟨ha, by rw [e72]; exact t2⟩, if_neg (by omega), show 64 + a - 64 = a by omega]
    exact this
  have hn := MV_n hW.1.2.1
  obtain ⟨P, hP⟩ : ∃ P, wPl w (64 + a) = P := ⟨_, rfl⟩
  rw [hP] at pl
  have TF := tz_timeFrom (m := m) hWK (64 + a)
  rw [if_pos (by omega), hTT] at TF
  have SP := tz_stopPlot (m := m) hWK a
  rw [pl.1] at SP
  have NB := tz_nextStop (m := m) hWK (a := a) (b := -1) (by omega)
  have NA := tz_nextStop (m := m) hWK (a := a) (b := 1) (by omega)
  have nb : cNs m a (-1) = if 1 ≤ a % 6 then a - 1 else -1 := by
    unfold cNs
    by_cases c : 1 ≤ a % 6
    · rw [if_pos ⟨ha, by omega, by rw [e72]; omega⟩, if_pos c]; rfl
    · rw [if_neg (fun q => c (by omega)), if_neg c]
  have na : cNs m a 1 = if a % 6 + 1 < w 131 (a / 6) then a + 1 else -1 := by
    unfold cNs
    by_cases c : a % 6 + 1 < w 131 (a / 6)
    · rw [if_pos ⟨ha, by omega, by rw [e72]; exact c⟩, if_pos c]
    · rw [if_neg (fun q => c (by rw [← e72]; exact q.2.2)), if_neg c]
  rw [nb] at NB
  rw [na] at NA
  have GR := tz_groundOf (m := m) hB hW.1.1.1 P
  simp only [Int.reduceAdd] at GR
  change ev 24 0 [(2, 3), (0, P)] [] R m = some ((0, cGr m P), R, m) at GR
  have SH : ∀ (f : Int → Int) s t, ev 161 0 [(2, 70), (0, s), (0, t)] [] R (zpr m 76 f) = some ((9, 0), R, zpr m 76 (if (0 ≤ s ∧ s < 88) ∧ t < f s then zrw f s t else f)) := fun f s t => by
    rw [tz_shorten hWK, zpr_at]
    by_cases c : (0 ≤ s ∧ s < 88) ∧ t < f s
    · rw [if_pos c, if_pos c, zpr_zpr]
    · rw [if_neg c, if_neg c]
  have SH0 : ∀ s t, ev 161 0 [(2, 70), (0, s), (0, t)] [] R m = some ((9, 0), R, zpr m 76 (if (0 ≤ s ∧ s < 88) ∧ t < m 76 s then zrw (m 76) s t else m 76)) := fun s t => by
    have := SH (m 76) s t
    rw [zpr_self] at this
    exact this
  have z0 : zw (64 + a) = 64 + a := zw_i (by omega) (by omega)
  have z1 : zw (T + 2) = T + 2 := zw_i (by omega) (by omega)
  have z2 : zw (T + 1) = T + 1 := zw_i (by omega) (by omega)
  have z3 : zw (64 + (a - 1)) = 64 + a - 1 := by rw [zw_i (by omega) (by omega)]; omega
  have z4 : zw (64 + (a + 1)) = 64 + a + 1 := by rw [zw_i (by omega) (by omega)]; omega
  -- the three shortenings, one after the other
  obtain ⟨f1, h1⟩ : ∃ f1, f1 = if cGr m P ≠ 1 then (if (0 ≤ P ∧ P < 88) ∧ T + 2 < m 76 P then zrw (m 76) P (T + 2) else m 76) else m 76 := ⟨_, rfl⟩
  obtain ⟨f2, h2⟩ : ∃ f2, f2 = if 1 ≤ a % 6 then (if (0 ≤ 64 + a - 1 ∧ 64 + a - 1 < 88) ∧ T + 1 < f1 (64 + a - 1) then zrw f1 (64 + a - 1) (T + 1) else f1) else f1 := ⟨_, rfl⟩
  obtain ⟨f3, h3⟩ : ∃ f3, f3 = if a % 6 + 1 < w 131 (a / 6) then (if (0 ≤ 64 + a + 1 ∧ 64 + a + 1 < 88) ∧ T + 1 < f2 (64 + a + 1) then zrw f2 (64 + a + 1) (T + 1) else f2) else f2 := ⟨_, rfl⟩
  have L1 : ev 162 0 [(2, 70), (0, a), (9, 0), (9, 0), (9, 0), (9, 0)] [] R m = ev 162 51 [(2, 70), (0, a), (0, T), (0, P), (0, if 1 ≤ a % 6 then a - 1 else -1), (0, if a % 6 + 1 < w 131 (a / 6) then a + 1 else -1)] [] R (zpr m 76 f1) := by
    by_cases c : cGr m P = 1
    · rw [if_neg (fun q => q c)] at h1
      rw [h1, zpr_self]
      simp only [s162_0, s162_1, s162_3, s162_4, s162_5, s162_8, s162_9, s162_10, s162_11, s162_14, s162_15, s162_16, s162_17, s162_18, s162_21, s162_23, s162_24, s162_25, s162_26, s162_29, s162_31, s162_32, s162_35, s162_36, s162_39, s162_40, s162_43, s162_44, s162_45, s162_46, s162_47, s162_48, s162_53, s162_56, s162_57, s162_59, s162_61, s162_62, s162_63, s162_64, s162_65, s162_68, s162_70, s162_73, s162_74, s162_76, s162_78, s162_79, s162_80, s162_81, s162_82, s162_85, zps_0, zps_1, zps_2, zps_3, zps_9, Option.bind_some, Option.bind_none, Int.reduceEq, Int.reduceNe, Int.reduceLT, Int.reduceLE, Int.reduceNeg, Int.reduceAdd, Int.reduceSub, Int.reduceMul, reduceIte, if_true, if_false, true_and, and_true, false_and, and_false, or_true, true_or, or_false, false_or, not_true_eq_false, not_false_eq_true, ite_not, z_b0, z_b1, z_b01, rWK0 hWK, rWK1 hWK, rWK2 hWK, rWK3 hWK, rWK4 hWK, rWK5 hWK, rWK6 hWK, rWK7 hWK, rWK8 hWK, kWK0, kWK1, kWK2, kWK3, kWK4, kWK5, kWK6, kWK7, kWK8, kWK9, kWK10, kWK11, kWK12, kWK13, kWK14, kWK15, kWK16, hK3, z0, TF, SP, NB, NA, GR, c, if_true]
    · rw [if_pos c] at h1
      rw [h1]
      simp only [s162_0, s162_1, s162_3, s162_4, s162_5, s162_8, s162_9, s162_10, s162_11, s162_14, s162_15, s162_16, s162_17, s162_18, s162_21, s162_23, s162_24, s162_25, s162_26, s162_29, s162_31, s162_32, s162_35, s162_36, s162_39, s162_40, s162_43, s162_44, s162_45, s162_46, s162_47, s162_48, s162_53, s162_56, s162_57, s162_59, s162_61, s162_62, s162_63, s162_64, s162_65, s162_68, s162_70, s162_73, s162_74, s162_76, s162_78, s162_79, s162_80, s162_81, s162_82, s162_85, zps_0, zps_1, zps_2, zps_3, zps_9, Option.bind_some, Option.bind_none, Int.reduceEq, Int.reduceNe, Int.reduceLT, Int.reduceLE, Int.reduceNeg, Int.reduceAdd, Int.reduceSub, Int.reduceMul, reduceIte, if_true, if_false, true_and, and_true, false_and, and_false, or_true, true_or, or_false, false_or, not_true_eq_false, not_false_eq_true, ite_not, z_b0, z_b1, z_b01, rWK0 hWK, rWK1 hWK, rWK2 hWK, rWK3 hWK, rWK4 hWK, rWK5 hWK, rWK6 hWK, rWK7 hWK, rWK8 hWK, kWK0, kWK1, kWK2, kWK3, kWK4, kWK5, kWK6, kWK7, kWK8, kWK9, kWK10, kWK11, kWK12, kWK13, kWK14, kWK15, kWK16, hK3, z0, z1, TF, SP, NB, NA, GR, c, if_false, SH0]
  have L2 : ∀ l5 : Int, ev 162 51 [(2, 70), (0, a), (0, T), (0, P), (0, if 1 ≤ a % 6 then a - 1 else -1), (0, l5)] [] R (zpr m 76 f1) = ev 162 68 [(2, 70), (0, a), (0, T), (0, P), (0, if 1 ≤ a % 6 then a - 1 else -1), (0, l5)] [] R (zpr m 76 f2) := by
    intro l5
    by_cases c : 1 ≤ a % 6
    · have c1 : ¬ a - 1 < 0 := by omega
      have c2 : 0 ≤ a - 1 := by omega
      rw [if_pos c] at h2 ⊢
      rw [h2]
      simp only [s162_0, s162_1, s162_3, s162_4, s162_5, s162_8, s162_9, s162_10, s162_11, s162_14, s162_15, s162_16, s162_17, s162_18, s162_21, s162_23, s162_24, s162_25, s162_26, s162_29, s162_31, s162_32, s162_35, s162_36, s162_39, s162_40, s162_43, s162_44, s162_45, s162_46, s162_47, s162_48, s162_51, s162_53, s162_56, s162_57, s162_59, s162_61, s162_62, s162_63, s162_64, s162_65, s162_70, s162_73, s162_74, s162_76, s162_78, s162_79, s162_80, s162_81, s162_82, s162_85, zps_0, zps_1, zps_2, zps_3, zps_9, Option.bind_some, Option.bind_none, Int.reduceEq, Int.reduceNe, Int.reduceLT, Int.reduceLE, Int.reduceNeg, Int.reduceAdd, Int.reduceSub, Int.reduceMul, reduceIte, if_true, if_false, true_and, and_true, false_and, and_false, or_true, true_or, or_false, false_or, not_true_eq_false, not_false_eq_true, ite_not, z_b0, z_b1, z_b01, rWK0 hWK, rWK1 hWK, rWK2 hWK, rWK3 hWK, rWK4 hWK, rWK5 hWK, rWK6 hWK, rWK7 hWK, rWK8 hWK, kWK0, kWK1, kWK2, kWK3, kWK4, kWK5, kWK6, kWK7, kWK8, kWK9, kWK10, kWK11, kWK12, kWK13, kWK14, kWK15, kWK16, c1, c2, z2, z3, SH, if_true, if_false]
    · rw [if_neg c] at h2 ⊢
      rw [h2]
      simp only [s162_0, s162_1, s162_3, s162_4, s162_5, s162_8, s162_9, s162_10, s162_11, s162_14, s162_15, s162_16, s162_17, s162_18, s162_21, s162_23, s162_24, s162_25, s162_26, s162_29, s162_31, s162_32, s162_35, s162_36, s162_39, s162_40, s162_43, s162_44, s162_45, s162_46, s162_47, s162_48, s162_51, s162_53, s162_56, s162_57, s162_59, s162_61, s162_62, s162_63, s162_64, s162_65, s162_70, s162_73, s162_74, s162_76, s162_78, s162_79, s162_80, s162_81, s162_82, s162_85, zps_0, zps_1, zps_2, zps_3, zps_9, Option.bind_some, Option.bind_none, Int.reduceEq, Int.reduceNe, Int.reduceLT, Int.reduceLE, Int.reduceNeg, Int.reduceAdd, Int.reduceSub, Int.reduceMul, reduceIte, if_true, if_false, true_and, and_true, false_and, and_false, or_true, true_or, or_false, false_or, not_true_eq_false, not_false_eq_true, ite_not, z_b0, z_b1, z_b01, rWK0 hWK, rWK1 hWK, rWK2 hWK, rWK3 hWK, rWK4 hWK, rWK5 hWK, rWK6 hWK, rWK7 hWK, rWK8 hWK, kWK0, kWK1, kWK2, kWK3, kWK4, kWK5, kWK6, kWK7, kWK8, kWK9, kWK10, kWK11, kWK12, kWK13, kWK14, kWK15, kWK16, if_true, if_false]
  have L3 : ∀ l4 : Int, ev 162 68 [(2, 70), (0, a), (0, T), (0, P), (0, l4), (0, if a % 6 + 1 < w 131 (a / 6) then a + 1 else -1)] [] R (zpr m 76 f2) = some ((9, 0), R, zpr m 76 f3) := by
    intro l4
    by_cases c : a % 6 + 1 < w 131 (a / 6)
    · have c1 : ¬ a + 1 < 0 := by omega
      have c2 : 0 ≤ a + 1 := by omega
      rw [if_pos c] at h3 ⊢
      rw [h3]
      simp only [s162_0, s162_1, s162_3, s162_4, s162_5, s162_8, s162_9, s162_10, s162_11, s162_14, s162_15, s162_16, s162_17, s162_18, s162_21, s162_23, s162_24, s162_25, s162_26, s162_29, s162_31, s162_32, s162_35, s162_36, s162_39, s162_40, s162_43, s162_44, s162_45, s162_46, s162_47, s162_48, s162_51, s162_53, s162_56, s162_57, s162_59, s162_61, s162_62, s162_63, s162_64, s162_65, s162_68, s162_70, s162_73, s162_74, s162_76, s162_78, s162_79, s162_80, s162_81, s162_82, s162_85, zps_0, zps_1, zps_2, zps_3, zps_9, Option.bind_some, Option.bind_none, Int.reduceEq, Int.reduceNe, Int.reduceLT, Int.reduceLE, Int.reduceNeg, Int.reduceAdd, Int.reduceSub, Int.reduceMul, reduceIte, if_true, if_false, true_and, and_true, false_and, and_false, or_true, true_or, or_false, false_or, not_true_eq_false, not_false_eq_true, ite_not, z_b0, z_b1, z_b01, rWK0 hWK, rWK1 hWK, rWK2 hWK, rWK3 hWK, rWK4 hWK, rWK5 hWK, rWK6 hWK, rWK7 hWK, rWK8 hWK, kWK0, kWK1, kWK2, kWK3, kWK4, kWK5, kWK6, kWK7, kWK8, kWK9, kWK10, kWK11, kWK12, kWK13, kWK14, kWK15, kWK16, c1, c2, z2, z4, SH, if_true, if_false]
    · rw [if_neg c] at h3 ⊢
      rw [h3]
      simp only [s162_0, s162_1, s162_3, s162_4, s162_5, s162_8, s162_9, s162_10, s162_11, s162_14, s162_15, s162_16, s162_17, s162_18, s162_21, s162_23, s162_24, s162_25, s162_26, s162_29, s162_31, s162_32, s162_35, s162_36, s162_39, s162_40, s162_43, s162_44, s162_45, s162_46, s162_47, s162_48, s162_51, s162_53, s162_56, s162_57, s162_59, s162_61, s162_62, s162_63, s162_64, s162_65, s162_68, s162_70, s162_73, s162_74, s162_76, s162_78, s162_79, s162_80, s162_81, s162_82, s162_85, zps_0, zps_1, zps_2, zps_3, zps_9, Option.bind_some, Option.bind_none, Int.reduceEq, Int.reduceNe, Int.reduceLT, Int.reduceLE, Int.reduceNeg, Int.reduceAdd, Int.reduceSub, Int.reduceMul, reduceIte, if_true, if_false, true_and, and_true, false_and, and_false, or_true, true_or, or_false, false_or, not_true_eq_false, not_false_eq_true, ite_not, z_b0, z_b1, z_b01, rWK0 hWK, rWK1 hWK, rWK2 hWK, rWK3 hWK, rWK4 hWK, rWK5 hWK, rWK6 hWK, rWK7 hWK, rWK8 hWK, kWK0, kWK1, kWK2, kWK3, kWK4, kWK5, kWK6, kWK7, kWK8, kWK9, kWK10, kWK11, kWK12, kWK13, kWK14, kWK15, kWK16, if_true, if_false]
  refine ⟨f3, by rw [L1, L2, L3], fun s s0 s1 => ?_⟩
  clear L1 L2 L3 SH SH0 TF SP NB NA GR
  have q3 : f3 s = if s = 64 + a + 1 ∧ a % 6 + 1 < w 131 (a / 6) ∧ T + 1 < f2 s then T + 1 else f2 s := by
    rw [h3]
    by_cases c : a % 6 + 1 < w 131 (a / 6)
    · rw [if_pos c]
      by_cases e : s = 64 + a + 1
      · subst e
        by_cases d : T + 1 < f2 (64 + a + 1)
        · rw [if_pos ⟨by omega, d⟩, zrw_at, if_pos ⟨rfl, c, d⟩]
        · rw [if_neg (fun q => d q.2), if_neg (fun q => d q.2.2)]
      · rw [zsh_o _ e, if_neg (fun q => e q.1)]
    · rw [if_neg c, if_neg (fun q => c q.2.1)]
  have q2 : f2 s = if s = 64 + a - 1 ∧ 1 ≤ a % 6 ∧ T + 1 < f1 s then T + 1 else f1 s := by
    rw [h2]
    by_cases c : 1 ≤ a % 6
    · rw [if_pos c]
      by_cases e : s = 64 + a - 1
      · subst e
        by_cases d : T + 1 < f1 (64 + a - 1)
        · rw [if_pos ⟨by omega, d⟩, zrw_at, if_pos ⟨rfl, c, d⟩]
        · rw [if_neg (fun q => d q.2), if_neg (fun q => d q.2.2)]
      · rw [zsh_o _ e, if_neg (fun q => e q.1)]
    · rw [if_neg c, if_neg (fun q => c q.2.1)]
  have q1 : f1 s = if s = P ∧ cGr m P ≠ 1 ∧ T + 2 < m 76 s then T + 2 else m 76 s := by
    rw [h1]
    by_cases c : cGr m P ≠ 1
    · rw [if_pos c]
      by_cases e : s = P
      · subst e
        by_cases d : T + 2 < m 76 s
        · rw [if_pos ⟨by omega, d⟩, zrw_at, if_pos ⟨rfl, c, d⟩]
        · rw [if_neg (fun q => d q.2), if_neg (fun q => d q.2.2)]
      · rw [zsh_o _ e, if_neg (fun q => e q.1)]
    · rw [if_neg c, if_neg (fun q => c q.2.1)]
  by_cases c : s < 64
  · rw [q3, if_neg (by omega), q2, if_neg (by omega), q1]
    have tk : wTk w s (64 + a) = if s = P then 2 else 1000000 := by
      unfold wTk
      rw [if_neg (by omega), if_neg (by omega), hP]
      have : wPl w s = s := by unfold wPl; rw [if_pos c]
      rw [this, if_pos c]
    have st := wSt_lo (w := w) (s := s) ⟨s0, c⟩
    have cg := cGr_e hW s0
    rw [tk]
    by_cases e : s = P
    · rw [if_pos e]
      subst e
      by_cases d : cGr m s ≠ 1
      · have := st.2 (cg.1 d)
        by_cases g : T + 2 < m 76 s
        · rw [if_pos ⟨rfl, d, g⟩, if_pos ⟨this, by omega, g⟩]
        · rw [if_neg (fun q => g q.2.2), if_neg (fun q => g q.2.2)]
      · rw [if_neg (fun q => d q.2.1), if_neg (fun q => d (cg.2 (st.1 q.1)))]
    · rw [if_neg (fun q => e q.1), if_neg e, if_neg (fun q => by omega)]
  · have e1 : f1 s = m 76 s := by rw [q1, if_neg (by omega)]
    have tk : wTk w s (64 + a) = if (s - 64) / 6 = a / 6 ∧ (s - (64 + a) = 1 ∨ 64 + a - s = 1) then 1 else 1000000 := by
      unfold wTk
      rw [if_neg (by omega), if_pos (by omega), show 64 + a - 64 = a by omega]
    have st : wSt w s = true ↔ ((s - 64) / 6 < w 100 51 ∧ (s - 64) % 6 < w 131 ((s - 64) / 6)) := by
      unfold wSt
      rw [if_neg c]
      simp only [Bool.and_eq_true, decide_eq_true_eq]
      exact ⟨fun q => q.2.2, fun q => ⟨by omega, hb, q⟩⟩
    rw [tk, q3, q2, e1]
    by_cases u : s = 64 + a + 1
    · have d1 : ¬ s = 64 + a - 1 := by omega
      rw [if_neg (show ¬ (s = 64 + a - 1 ∧ 1 ≤ a % 6 ∧ T + 1 < m 76 s) from fun q => d1 q.1)]
      by_cases v : a % 6 + 1 < w 131 (a / 6)
      · have k1 : (s - 64) / 6 = a / 6 := by omega
        have k2 : (s - 64) % 6 = a % 6 + 1 := by omega
        rw [if_pos (show (s - 64) / 6 = a / 6 ∧ (s - (64 + a) = 1 ∨ 64 + a - s = 1) from ⟨k1, Or.inl (by omega)⟩)]
        have ss := st.2 ⟨by rw [k1]; exact t1, by rw [k1, k2]; exact v⟩
        by_cases g : T + 1 < m 76 s
        · rw [if_pos ⟨u, v, g⟩, if_pos ⟨ss, by omega, g⟩]
        · rw [if_neg (fun q => g q.2.2), if_neg (fun q => g q.2.2)]
      · rw [if_neg (fun q => v q.2.1), if_neg]
        rintro ⟨z1, z2, z3⟩
        split at z2
        next z4 =>
          have := st.1 z1
          rw [z4.1] at this
          have : (s - 64) % 6 = a % 6 + 1 := by omega
          omega
        next => omega
    · rw [if_neg (show ¬ (s = 64 + a + 1 ∧ a % 6 + 1 < w 131 (a / 6) ∧ _) from fun q => u q.1)]
      by_cases u2 : s = 64 + a - 1
      · by_cases v : 1 ≤ a % 6
        · have k1 : (s - 64) / 6 = a / 6 := by omega
          have k2 : (s - 64) % 6 = a % 6 - 1 := by omega
          rw [if_pos (show (s - 64) / 6 = a / 6 ∧ (s - (64 + a) = 1 ∨ 64 + a - s = 1) from ⟨k1, Or.inr (by omega)⟩)]
          have ss := st.2 ⟨by rw [k1]; exact t1, by rw [k1, k2]; omega⟩
          by_cases g : T + 1 < m 76 s
          · rw [if_pos ⟨u2, v, g⟩, if_pos ⟨ss, by omega, g⟩]
          · rw [if_neg (fun q => g q.2.2), if_neg (fun q => g q.2.2)]
        · rw [if_neg (fun q => v q.2.1), if_neg]
          rintro ⟨z1, z2, z3⟩
          split at z2
          next z4 => omega
          next => omega
      · rw [if_neg (fun q => u2 q.1), if_neg]
        rintro ⟨z1, z2, z3⟩
        split at z2
        next z4 => omega
        next => omega
/-- the crowd of the class's sides against the model's edges -/
def CRg (m w : zM) (f : Int) : Prop := (f ≠ 0 ↔ w 100 56 = 0) ∧ (∀ p d, 0 ≤ p → p < 64 → 0 ≤ d → d < 4 → cGo m p d = true → (if f ≠ 0 then m 75 (4 * p + d) else 0) = w 135 (wEd p (cQ m p d))) ∧ ∀ i, 0 ≤ i → i < 256 → 0 ≤ m 75 i ∧ m 75 i ≤ 1000
theorem CRm_of {m' : zM} {f : Int} (h : CRg m w f) (hf : m' 70 10 = f) (h3 : m' 3 = m 3) (h4 : m' 4 = m 4) (h75 : m' 75 = m 75) (hL : LDok m') : CRm m' w := by
  have cq : ∀ p d, cQ m' p d = cQ m p d := fun p d => by unfold cQ; rw [h3]
  have cg : ∀ p, cGr m' p = cGr m p := fun p => by unfold cGr; rw [h3, h4]
  have cgo : ∀ p d, cGo m' p d = cGo m p d := fun p d => by unfold cGo; rw [cq, cg, cg]
  refine ⟨by rw [hf]; exact h.1, fun p d p0 p1 d0 d1 hq => ?_, by rw [h75]; exact h.2.2⟩
  have l1 := (hL p d p0 p1 d0 d1).1
  rw [cgo, cq] at l1
  by_cases g : cGo m p d = true
  · rw [if_pos g] at l1
    rw [l1, hf, h75]
    exact h.2.1 p d p0 p1 d0 d1 g
  · rw [if_neg g] at l1
    omega
theorem tz_measure (hWK : WK R) (hB : BK R 3) (hW : WRs m w) (hC : wCr w) (hL : m 70 7 = m 3 3 → LDok m) {to f : Int} (hto : 0 ≤ to ∧ to < 64) (hf : f = 0 ∨ f = 1) (hg : CRg m w f) : ∃ m' : zM, ev 153 0 [(2, 70), (0, to), (0, f), (9, 0), (9, 0)] [] R m = some ((9, 0), R, m') ∧ (∀ b, b ≠ 70 → b ≠ 73 → b ≠ 74 → b ≠ 76 → b ≠ 77 → m' b = m b) ∧ (∀ k, k ≠ 7 → k ≠ 10 → m' 70 k = m 70 k) ∧ LDok m' ∧ m' 70 7 = m 3 3 ∧ m' 70 10 = f ∧ ∃ Q, zdf (wSt w) (wTk w) to Q ∧ ∀ s, 0 ≤ s → s < 88 → m' 76 s = Q.1 s := by
  have hV := hW.1.1.1
  have hco := wTk_co hW.1.2.1 hC
  have hK3 := hB.1
  obtain ⟨m1, a1, l1, l7, b1, k1⟩ := tz_layOut (R := R) (m := zpr m 70 (zrw (m 70) 10 f)) hWK hB (by
    unfold BV at *
    simp only [Int.reduceAdd] at *
    simp (disch := decide) only [zpr_ne]
    exact hV) (fun e => by
    rw [zpr_at, zrw_ne (by decide), zpr_ne (by decide)] at e
    have h := hL e
    intro p d p0 p1 d0 d1
    have := h p d p0 p1 d0 d1
    unfold LDr cGo cBs at *
    simp only [cQ, cGr] at *
    simp (disch := decide) only [zpr_ne]
    exact this)
  have g1 : ∀ b, b ≠ 70 → b ≠ 73 → b ≠ 74 → m1 b = m b := fun b q1 q2 q3 => by rw [b1 b q1 q2 q3, zpr_ne q1]
  have F1 := tz_fill (R := R) (m := m1) (a := 76) (n := 88) 1000000 (by decide +kernel) (by decide +kernel) (by omega) (by omega)
  have F2 := fun f => tz_fill (R := R) (m := zpr m1 76 f) (a := 77) (n := 88) 0 (by decide +kernel) (by decide +kernel) (by omega) (by omega)
  obtain ⟨m2, hm2⟩ : ∃ m2, zpr (zpr m1 76 (zfll (m1 76) 88 1000000)) 77 (zfll (zpr m1 76 (zfll (m1 76) 88 1000000) 77) 88 0) = m2 := ⟨_, rfl⟩
  have F2 := F2 (zfll (m1 76) 88 1000000)
  rw [hm2] at F2
  have g2 : ∀ b, b ≠ 76 → b ≠ 77 → m2 b = m1 b := fun b q1 q2 => by rw [← hm2, zpr_ne q2, zpr_ne q1]
  have t2 : ∀ s, 0 ≤ s → s < 88 → m2 76 s = 1000000 ∧ m2 77 s = 0 := by
    intro s s0 s1
    rw [← hm2]
    constructor
    · rw [zpr_ne (by decide), zpr_at]; unfold zfll; rw [if_pos ⟨s0, s1⟩]
    · rw [zpr_at]; unfold zfll; rw [if_pos ⟨s0, s1⟩]
  have gg : ∀ b, b ≠ 70 → b ≠ 73 → b ≠ 74 → b ≠ 76 → b ≠ 77 → m2 b = m b := fun b q1 q2 q3 q4 q5 => (g2 b q4 q5).trans (g1 b q1 q2 q3)
  have k2 : ∀ k, k ≠ 7 → k ≠ 10 → m2 70 k = m 70 k := fun k q1 q2 => by rw [g2 70 (by decide) (by decide), k1 k q1, zpr_at, zrw_ne q2]
  have f10 : m2 70 10 = f := by rw [g2 70 (by decide) (by decide), k1 10 (by decide), zpr_at, zrw_at]
  have f7 : m2 70 7 = m 3 3 := by rw [g2 70 (by decide) (by decide), l7, zpr_ne (by decide)]
  have LD : ∀ m' : zM, m' 3 = m 3 → m' 4 = m 4 → m' 5 = m 5 → m' 73 = m1 73 → m' 74 = m1 74 → LDok m' := by
    intro m' e3 e4 e5 e73 e74 p d p0 p1 d0 d1
    have := l1 p d p0 p1 d0 d1
    unfold LDr cGo cBs cGr cQ at *
    rw [e3, e4, e5, e73, e74]
    rw [g1 3 (by decide) (by decide) (by decide), g1 4 (by decide) (by decide) (by decide), g1 5 (by decide) (by decide) (by decide)] at this
    exact this
  have WI := tz_within to 0 63 R m2
  rw [if_pos (by omega)] at WI
  have hV2 : ∀ m' : zM, (∀ b, b ≠ 70 → b ≠ 73 → b ≠ 74 → b ≠ 76 → b ≠ 77 → m' b = m b) → BV m' 3 := by
    intro m' h
    unfold BV at *
    simp only [Int.reduceAdd] at *
    rw [h 3 (by decide) (by decide) (by decide) (by decide) (by decide), h 4 (by decide) (by decide) (by decide) (by decide) (by decide), h 5 (by decide) (by decide) (by decide) (by decide) (by decide), h 6 (by decide) (by decide) (by decide) (by decide) (by decide)]
    exact hV
  have GR := tz_groundOf (m := m2) hB (hV2 m2 gg) to
  simp only [Int.reduceAdd] at GR
  change ev 24 0 [(2, 3), (0, to)] [] R m2 = some ((0, cGr m2 to), R, m2) at GR
  have cg2 : cGr m2 to = cGr m to := by unfold cGr; rw [gg 3 (by decide) (by decide) (by decide) (by decide) (by decide), gg 4 (by decide) (by decide) (by decide) (by decide) (by decide)]
  rw [cg2] at GR
  have cge := (cGr_e hW hto.1).trans (wSt_lo (w := w) hto).symm
  by_cases c : cGr m to = 1
  · have ns : ¬ wSt w to = true := fun q => (cge.2 q) c
    refine ⟨m2, ?_, gg, k2, LD m2 (gg 3 (by decide) (by decide) (by decide) (by decide) (by decide)) (gg 4 (by decide) (by decide) (by decide) (by decide) (by decide)) (gg 5 (by decide) (by decide) (by decide) (by decide) (by decide)) (g2 73 (by decide) (by decide)) (g2 74 (by decide) (by decide)), f7, f10, zd0 (wSt w) to, ⟨0, rfl, ?_⟩, fun s s0 s1 => ?_⟩
    · simp only [s153_0, s153_1, s153_2, s153_5, s153_6, s153_9, s153_10, s153_13, s153_15, s153_18, s153_19, s153_22, s153_23, s153_26, s153_27, s153_28, s153_30, s153_33, s153_36, s153_37, s153_40, s153_41, s153_44, s153_45, s153_48, s153_49, s153_50, s153_53, s153_54, s153_55, s153_56, s153_57, s153_59, s153_61, s153_64, s153_65, s153_68, s153_70, s153_72, s153_75, s153_77, s153_79, s153_82, s153_83, s153_84, s153_87, s153_89, s153_90, s153_91, s153_93, s153_95, s153_98, s153_99, s153_101, s153_104, s153_107, s153_108, s153_110, s153_112, s153_113, s153_116, s153_119, s153_122, zps_0, zps_1, zps_2, zps_3, zps_9, Option.bind_some, Option.bind_none, Int.reduceEq, Int.reduceNe, Int.reduceLT, Int.reduceLE, Int.reduceNeg, Int.reduceAdd, Int.reduceSub, Int.reduceMul, reduceIte, if_true, if_false, true_and, and_true, false_and, and_false, or_true, true_or, or_false, false_or, not_true_eq_false, not_false_eq_true, ite_not, z_b0, z_b1, z_b01, rWK0 hWK, rWK1 hWK, rWK2 hWK, rWK3 hWK, rWK4 hWK, rWK5 hWK, rWK6 hWK, rWK7 hWK, rWK8 hWK, kWK0, kWK1, kWK2, kWK3, kWK4, kWK5, kWK6, kWK7, kWK8, kWK9, kWK10, kWK11, kWK12, kWK13, kWK14, kWK15, kWK16, hK3, hf, zup_zpr, a1, F1, F2, WI, GR, c, and_self, if_true, if_false]
    · rcases zpk_ok (zd0 (wSt w) to).1 (zd0 (wSt w) to).2 88 with ⟨q, -⟩ | ⟨-, -, -, q, -⟩
      · exact q
      · exfalso
        unfold zd0 at q
        dsimp only at q
        rw [if_neg (fun z => ns z.2)] at q
        omega
    · rw [(t2 s s0 s1).1]
      unfold zd0
      dsimp only
      rw [if_neg (fun z => ns z.2)]
  · have ss : wSt w to = true := cge.1 c
    obtain ⟨m3, hm3⟩ : ∃ m3, zpr m2 76 (zrw (m2 76) to 0) = m3 := ⟨_, rfl⟩
    have L0 : ev 153 0 [(2, 70), (0, to), (0, f), (9, 0), (9, 0)] [] R m = ev 153 58 [(2, 70), (0, to), (0, f), (0, 0), (9, 0)] [] R m3 := by
      have c88 : 0 ≤ to ∧ to < 88 := by omega
      rw [← hm3]
      simp only [s153_0, s153_1, s153_2, s153_5, s153_6, s153_9, s153_10, s153_13, s153_15, s153_18, s153_19, s153_22, s153_23, s153_26, s153_27, s153_28, s153_30, s153_33, s153_36, s153_37, s153_40, s153_41, s153_44, s153_45, s153_48, s153_49, s153_50, s153_53, s153_54, s153_55, s153_56, s153_57, s153_59, s153_61, s153_64, s153_65, s153_68, s153_70, s153_72, s153_75, s153_77, s153_79, s153_82, s153_83, s153_84, s153_87, s153_89, s153_90, s153_91, s153_93, s153_95, s153_98, s153_99, s153_101, s153_104, s153_107, s153_108, s153_110, s153_112, s153_113, s153_116, s153_119, s153_122, zps_0, zps_1, zps_2, zps_3, zps_9, Option.bind_some, Option.bind_none, Int.reduceEq, Int.reduceNe, Int.reduceLT, Int.reduceLE, Int.reduceNeg, Int.reduceAdd, Int.reduceSub, Int.reduceMul, reduceIte, if_true, if_false, true_and, and_true, false_and, and_false, or_true, true_or, or_false, false_or, not_true_eq_false, not_false_eq_true, ite_not, z_b0, z_b1, z_b01, rWK0 hWK, rWK1 hWK, rWK2 hWK, rWK3 hWK, rWK4 hWK, rWK5 hWK, rWK6 hWK, rWK7 hWK, rWK8 hWK, kWK0, kWK1, kWK2, kWK3, kWK4, kWK5, kWK6, kWK7, kWK8, kWK9, kWK10, kWK11, kWK12, kWK13, kWK14, kWK15, kWK16, hK3, hf, zup_zpr, a1, F1, F2, WI, GR, c, c88, and_self, if_true, if_false]
    rw [L0]
    have r0 : zRP (m3 76) (m3 77) (zd0 (wSt w) to) := by
      intro s s0 s1
      have t := t2 s s0 s1
      rw [← hm3, zpr_at, zpr_ne (by decide), zrw_if, t.1, t.2]
      unfold zd0
      refine ⟨?_, rfl⟩
      dsimp only
      by_cases e : s = to
      · rw [if_pos e, if_pos ⟨e, ss⟩]
      · rw [if_neg e, if_neg (fun q => e q.1)]
    have d3 : (∀ b, b ≠ 70 → b ≠ 73 → b ≠ 74 → b ≠ 76 → b ≠ 77 → m3 b = m b) ∧ m3 70 = m2 70 ∧ m3 73 = m1 73 ∧ m3 74 = m1 74 := by
      rw [← hm3]
      refine ⟨fun b q1 q2 q3 q4 q5 => by rw [zpr_ne q4, gg b q1 q2 q3 q4 q5], by rw [zpr_ne (by decide)], by rw [zpr_ne (by decide), g2 73 (by decide) (by decide)], by rw [zpr_ne (by decide), g2 74 (by decide) (by decide)]⟩
    clear hm3 L0
    refine zloop (fun r => ∃ m' : zM, r = some ((9, 0), R, m') ∧ (∀ b, b ≠ 70 → b ≠ 73 → b ≠ 74 → b ≠ 76 → b ≠ 77 → m' b = m b) ∧ (∀ k, k ≠ 7 → k ≠ 10 → m' 70 k = m 70 k) ∧ LDok m' ∧ m' 70 7 = m 3 3 ∧ m' 70 10 = f ∧ ∃ Q, zdf (wSt w) (wTk w) to Q ∧ ∀ s, 0 ≤ s → s < 88 → m' 76 s = Q.1 s) (fun i (x : zM × zV) => ev 153 58 [(2, 70), (0, to), (0, f), (0, i), x.2] [] R x.1) 88 (fun i x => 0 ≤ i ∧ zRP (x.1 76) (x.1 77) (zdt (zds (wSt w) (wTk w)) i.toNat (zd0 (wSt w) to)) ∧ (∀ b, b ≠ 70 → b ≠ 73 → b ≠ 74 → b ≠ 76 → b ≠ 77 → x.1 b = m b) ∧ x.1 70 = m2 70 ∧ x.1 73 = m1 73 ∧ x.1 74 = m1 74) ?_ ?_ 0 (m3, (9, 0)) (by omega) ⟨by omega, r0, d3.1, d3.2.1, d3.2.2.1, d3.2.2.2⟩
    · rintro i ⟨x, l4⟩ hi ⟨i0, hR, hfr, h70, h73, h74⟩ ih
      dsimp only at hR hfr h70 h73 h74 ih ⊢
      obtain ⟨P, hP⟩ : ∃ P, zdt (zds (wSt w) (wTk w)) i.toNat (zd0 (wSt w) to) = P := ⟨_, rfl⟩
      have hI := zDI_it (st := wSt w) (tk := wTk w) (C := 2020) (to := to) ⟨hto.1, by omega⟩ hco i.toNat (by omega)
      rw [hP] at hR hI
      have x3 : x 3 = m 3 := hfr 3 (by decide) (by decide) (by decide) (by decide) (by decide)
      have x4 : x 4 = m 4 := hfr 4 (by decide) (by decide) (by decide) (by decide) (by decide)
      have x5 : x 5 = m 5 := hfr 5 (by decide) (by decide) (by decide) (by decide) (by decide)
      have x75 : x 75 = m 75 := hfr 75 (by decide) (by decide) (by decide) (by decide) (by decide)
      have x701 : x 70 1 = m 70 1 := by rw [h70, k2 1 (by decide) (by decide)]
      have x7010 : x 70 10 = f := by rw [h70, f10]
      have en : x 3 2 = mN w := by rw [x3]; exact RB_n hW.1
      have hn := MV_n hW.1.2.1
      have tr := hW.2.1
      have hbh : ∀ s, P.1 s < 1000000 → s < if f ≠ 0 then mN w else 64 + 6 * m 70 1 := by
        intro s hs
        have st := (hI.2.1 s hs).1
        have sr := (hI.2.1 s hs).2
        by_cases c64 : s < 64
        · have := (wSt_lo (w := w) ⟨sr.1, c64⟩).1 st
          split <;> omega
        · unfold wSt at st
          rw [if_neg c64] at st
          simp only [Bool.and_eq_true, decide_eq_true_eq] at st
          have f0 : ¬ f ≠ 0 := fun q => st.2.1 (hg.1.1 q)
          rw [if_neg f0, tr.1]
          omega
      have NE := tz_nearest (R := R) (m := x) hWK hB hR (bh := if f ≠ 0 then mN w else 64 + 6 * m 70 1) (by rw [x7010, en, x701]) (by split <;> omega) (by rw [x701, tr.1]; omega) (fun s s0 s1 hs => by have := hbh s hs; omega)
      obtain ⟨b, hb⟩ : ∃ b, zpk P.1 P.2 88 = b := ⟨_, rfl⟩
      rw [hb] at NE
      have c1 : ¬ 88 ≤ i := by omega
      have zi : zw (i + 1) = i + 1 := zw_i (by omega) (by omega)
      by_cases b4 : b = -4
      · rw [if_pos b4] at NE
        refine ⟨x, ?_, hfr, fun k q1 q2 => by rw [h70]; exact k2 k q1 q2, LD x x3 x4 x5 h73 h74, by rw [h70]; exact f7, x7010, P, ⟨i.toNat, hP.symm, by rw [hb, b4]⟩, fun s s0 s1 => (hR s s0 s1).1⟩
        rw [s153_58]
        simp only [s153_0, s153_1, s153_2, s153_5, s153_6, s153_9, s153_10, s153_13, s153_15, s153_18, s153_19, s153_22, s153_23, s153_26, s153_27, s153_28, s153_30, s153_33, s153_36, s153_37, s153_40, s153_41, s153_44, s153_45, s153_48, s153_49, s153_50, s153_53, s153_54, s153_55, s153_56, s153_57, s153_59, s153_61, s153_64, s153_65, s153_68, s153_70, s153_72, s153_75, s153_77, s153_79, s153_82, s153_83, s153_84, s153_87, s153_89, s153_90, s153_91, s153_93, s153_95, s153_98, s153_99, s153_101, s153_104, s153_107, s153_108, s153_110, s153_112, s153_113, s153_116, s153_119, s153_122, zps_0, zps_1, zps_2, zps_3, zps_9, Option.bind_some, Option.bind_none, Int.reduceEq, Int.reduceNe, Int.reduceLT, Int.reduceLE, Int.reduceNeg, Int.reduceAdd, Int.reduceSub, Int.reduceMul, reduceIte, if_true, if_false, true_and, and_true, false_and, and_false, or_true, true_or, or_false, false_or, not_true_eq_false, not_false_eq_true, ite_not, z_b0, z_b1, z_b01, rWK0 hWK, rWK1 hWK, rWK2 hWK, rWK3 hWK, rWK4 hWK, rWK5 hWK, rWK6 hWK, rWK7 hWK, rWK8 hWK, kWK0, kWK1, kWK2, kWK3, kWK4, kWK5, kWK6, kWK7, kWK8, kWK9, kWK10, kWK11, kWK12, kWK13, kWK14, kWK15, kWK16, hi, c1, NE, if_true, if_false]
      · rw [if_neg b4] at NE
        have ok := zpk_ok P.1 P.2 88
        rw [hb] at ok
        rcases ok with ⟨q, -⟩ | ⟨p1, p2, p3, p4, p5⟩
        · exact absurd q b4
        have p2 : b < 88 := p2
        have sb := hI.2.1 b p4
        have db : 0 ≤ P.1 b ∧ P.1 b ≤ 200000 := by
          rcases hI.1 b with q | ⟨q1, q2⟩
          · omega
          · have : 2020 * ((i.toNat : Nat) : Int) ≤ 2020 * 88 := by omega
            omega
        obtain ⟨x', hx'⟩ : ∃ x', zpr x 77 (zrw (x 77) b 1) = x' := ⟨_, rfl⟩
        have xr : ∀ q, q ≠ 77 → x' q = x q := fun q h => by rw [← hx', zpr_ne h]
        have x77 : x' 77 = zrw (x 77) b 1 := by rw [← hx', zpr_at]
        have hL' : LDok x' := LD x' (by rw [xr 3 (by decide), x3]) (by rw [xr 4 (by decide), x4]) (by rw [xr 5 (by decide), x5]) (by rw [xr 73 (by decide), h73]) (by rw [xr 74 (by decide), h74])
        have hW' : WRs x' w := WRs_c (fun q q0 q1 => by rw [xr q (by omega), hfr q (by omega) (by omega) (by omega) (by omega) (by omega)]) (by rw [xr 70 (by decide), x701]) (by rw [xr 71 (by decide), hfr 71 (by decide) (by decide) (by decide) (by decide) (by decide)]) (by rw [xr 72 (by decide), hfr 72 (by decide) (by decide) (by decide) (by decide) (by decide)]) hW
        have hC' : CRm x' w := CRm_of hg (by rw [xr 70 (by decide), x7010]) (by rw [xr 3 (by decide), x3]) (by rw [xr 4 (by decide), x4]) (by rw [xr 75 (by decide), x75]) hL'
        have eT : x' 76 b = P.1 b := by rw [xr 76 (by decide)]; exact (hR b p1 p2).1
        have step : ∃ f' : Int → Int, ev 153 58 [(2, 70), (0, to), (0, f), (0, i), l4] [] R x = ev 153 58 [(2, 70), (0, to), (0, f), (0, i + 1), (0, b)] [] R (zpr x' 76 f') ∧ ∀ s, 0 ≤ s → s < 88 → f' s = if wSt w s = true ∧ wTk w s b < 1000000 ∧ P.1 b + wTk w s b < P.1 s then P.1 b + wTk w s b else P.1 s := by
          have c2 : ¬ b < 0 := by omega
          have c3 : ¬ 88 ≤ b := by omega
          have c4 : 0 ≤ b ∧ b < 88 := ⟨p1, p2⟩
          have c5 : 0 ≤ b := p1
          by_cases c64 : b < 64
          · have c64' : ¬ 64 ≤ b := by omega
            obtain ⟨f', e1, e2⟩ := tz_reachPlot (R := R) hWK hL' hW' hC' ⟨p1, c64⟩ sb.1 (by rw [eT]; exact db)
            refine ⟨f', ?_, fun s s0 s1 => ?_⟩
            · rw [s153_58]
              simp only [s153_0, s153_1, s153_2, s153_5, s153_6, s153_9, s153_10, s153_13, s153_15, s153_18, s153_19, s153_22, s153_23, s153_26, s153_27, s153_28, s153_30, s153_33, s153_36, s153_37, s153_40, s153_41, s153_44, s153_45, s153_48, s153_49, s153_50, s153_53, s153_54, s153_55, s153_56, s153_57, s153_59, s153_61, s153_64, s153_65, s153_68, s153_70, s153_72, s153_75, s153_77, s153_79, s153_82, s153_83, s153_84, s153_87, s153_89, s153_90, s153_91, s153_93, s153_95, s153_98, s153_99, s153_101, s153_104, s153_107, s153_108, s153_110, s153_112, s153_113, s153_116, s153_119, s153_122, zps_0, zps_1, zps_2, zps_3, zps_9, Option.bind_some, Option.bind_none, Int.reduceEq, Int.reduceNe, Int.reduceLT, Int.reduceLE, Int.reduceNeg, Int.reduceAdd, Int.reduceSub, Int.reduceMul, reduceIte, if_true, if_false, true_and, and_true, false_and, and_false, or_true, true_or, or_false, false_or, not_true_eq_false, not_false_eq_true, ite_not, z_b0, z_b1, z_b01, rWK0 hWK, rWK1 hWK, rWK2 hWK, rWK3 hWK, rWK4 hWK, rWK5 hWK, rWK6 hWK, rWK7 hWK, rWK8 hWK, kWK0, kWK1, kWK2, kWK3, kWK4, kWK5, kWK6, kWK7, kWK8, kWK9, kWK10, kWK11, kWK12, kWK13, kWK14, kWK15, kWK16, hi, c1, NE, c2, c3, c4, c5, p2, and_self, if_true, if_false, zup_zpr, hx', c64, c64', e1, zi]
            · rw [e2 s s0 s1, eT, xr 76 (by decide), (hR s s0 s1).1]
          · have c64' : 64 ≤ b := by omega
            have zb' : zw (b - 64) = b - 64 := zw_i (by omega) (by omega)
            have e64 : 64 + (b - 64) = b := by omega
            obtain ⟨f', e1, e2⟩ := tz_reachAboard (R := R) (a := b - 64) hWK hB hW' ⟨by omega, by omega⟩ (by rw [e64]; exact sb.1) (by rw [e64, eT]; exact db)
            rw [e64] at e2
            refine ⟨f', ?_, fun s s0 s1 => ?_⟩
            · rw [s153_58]
              simp only [s153_0, s153_1, s153_2, s153_5, s153_6, s153_9, s153_10, s153_13, s153_15, s153_18, s153_19, s153_22, s153_23, s153_26, s153_27, s153_28, s153_30, s153_33, s153_36, s153_37, s153_40, s153_41, s153_44, s153_45, s153_48, s153_49, s153_50, s153_53, s153_54, s153_55, s153_56, s153_57, s153_59, s153_61, s153_64, s153_65, s153_68, s153_70, s153_72, s153_75, s153_77, s153_79, s153_82, s153_83, s153_84, s153_87, s153_89, s153_90, s153_91, s153_93, s153_95, s153_98, s153_99, s153_101, s153_104, s153_107, s153_108, s153_110, s153_112, s153_113, s153_116, s153_119, s153_122, zps_0, zps_1, zps_2, zps_3, zps_9, Option.bind_some, Option.bind_none, Int.reduceEq, Int.reduceNe, Int.reduceLT, Int.reduceLE, Int.reduceNeg, Int.reduceAdd, Int.reduceSub, Int.reduceMul, reduceIte, if_true, if_false, true_and, and_true, false_and, and_false, or_true, true_or, or_false, false_or, not_true_eq_false, not_false_eq_true, ite_not, z_b0, z_b1, z_b01, rWK0 hWK, rWK1 hWK, rWK2 hWK, rWK3 hWK, rWK4 hWK, rWK5 hWK, rWK6 hWK, rWK7 hWK, rWK8 hWK, kWK0, kWK1, kWK2, kWK3, kWK4, kWK5, kWK6, kWK7, kWK8, kWK9, kWK10, kWK11, kWK12, kWK13, kWK14, kWK15, kWK16, hi, c1, NE, c2, c3, c4, c5, p2, and_self, if_true, if_false, zup_zpr, hx', c64, c64', zb', e1, zi]
            · rw [e2 s s0 s1, eT, xr 76 (by decide), (hR s s0 s1).1]
        obtain ⟨f', e1, e2⟩ := step
        rw [e1]
        have fr : ∀ q, q ≠ 76 → q ≠ 77 → zpr x' 76 f' q = x q := fun q h1 h2 => by rw [zpr_ne h1, xr q h2]
        refine ih (zpr x' 76 f', (0, b)) ⟨by omega, ?_, fun q q1 q2 q3 q4 q5 => by dsimp only; rw [fr q q4 q5]; exact hfr q q1 q2 q3 q4 q5, by dsimp only; rw [fr 70 (by decide) (by decide)]; exact h70, by dsimp only; rw [fr 73 (by decide) (by decide)]; exact h73, by dsimp only; rw [fr 74 (by decide) (by decide)]; exact h74⟩
        dsimp only
        rw [show (i + 1).toNat = i.toNat + 1 by omega]
        simp only [zdt]
        rw [hP]
        intro s s0 s1
        rw [zpr_at, zpr_ne (by decide), x77]
        have ez : zds (wSt w) (wTk w) P = (zrx (wSt w) (wTk w) P.1 (fun s => P.2 s || decide (s = b)) b, fun s => P.2 s || decide (s = b)) := by
          unfold zds
          rw [hb, if_neg b4]
        rw [ez]
        constructor
        · show f' s = zrx (wSt w) (wTk w) P.1 (fun s => P.2 s || decide (s = b)) b s
          rw [e2 s s0 s1]
          unfold zrx
          by_cases cc : wSt w s = true ∧ wTk w s b < 1000000 ∧ P.1 b + wTk w s b < P.1 s
          · have nd : (P.2 s || decide (s = b)) = false := by
              cases hd : P.2 s with
              | true =>
                exfalso
                have := hI.2.2.2.1 s b hd p3
                have := (hco.1 s b s0 s1 p1 p2 cc.1 sb.1).1
                omega
              | false =>
                rw [Bool.false_or]
                refine decide_eq_false fun e => ?_
                have := (hco.1 s b s0 s1 p1 p2 cc.1 sb.1).1
                rw [e] at cc this
                omega
            rw [if_pos cc, if_pos ⟨cc.1, nd, cc.2⟩]
          · rw [if_neg cc, if_neg (fun q => cc ⟨q.1, q.2.2⟩)]
        · show zrw (x 77) b 1 s = if (P.2 s || decide (s = b)) = true then 1 else 0
          rw [zrw_if]
          by_cases e : s = b
          · rw [if_pos e, decide_eq_true e, Bool.or_true]; rfl
          · rw [if_neg e, (hR s s0 s1).2, decide_eq_false e, Bool.or_false]
    · rintro ⟨x, l4⟩ ⟨-, hR, hfr, h70, h73, h74⟩
      dsimp only at hR hfr h70 h73 h74 ⊢
      rw [show (88 : Int).toNat = 88 from rfl] at hR
      have x3 : x 3 = m 3 := hfr 3 (by decide) (by decide) (by decide) (by decide) (by decide)
      have x4 : x 4 = m 4 := hfr 4 (by decide) (by decide) (by decide) (by decide) (by decide)
      have x5 : x 5 = m 5 := hfr 5 (by decide) (by decide) (by decide) (by decide) (by decide)
      have z88 := zdt_88 (wSt w) (wTk w) to
      obtain ⟨Q, hQ⟩ : ∃ Q, zdt (zds (wSt w) (wTk w)) 88 (zd0 (wSt w) to) = Q := ⟨_, rfl⟩
      rw [hQ] at hR z88
      refine ⟨x, ?_, hfr, fun k q1 q2 => by rw [h70]; exact k2 k q1 q2, LD x x3 x4 x5 h73 h74, by rw [h70]; exact f7, by rw [h70]; exact f10, Q, ⟨88, hQ.symm, z88⟩, fun s s0 s1 => (hR s s0 s1).1⟩
      rw [s153_58]
      simp only [s153_0, s153_1, s153_2, s153_5, s153_6, s153_9, s153_10, s153_13, s153_15, s153_18, s153_19, s153_22, s153_23, s153_26, s153_27, s153_28, s153_30, s153_33, s153_36, s153_37, s153_40, s153_41, s153_44, s153_45, s153_48, s153_49, s153_50, s153_53, s153_54, s153_55, s153_56, s153_57, s153_59, s153_61, s153_64, s153_65, s153_68, s153_70, s153_72, s153_75, s153_77, s153_79, s153_82, s153_83, s153_84, s153_87, s153_89, s153_90, s153_91, s153_93, s153_95, s153_98, s153_99, s153_101, s153_104, s153_107, s153_108, s153_110, s153_112, s153_113, s153_116, s153_119, s153_122, zps_0, zps_1, zps_2, zps_3, zps_9, Option.bind_some, Option.bind_none, Int.reduceEq, Int.reduceNe, Int.reduceLT, Int.reduceLE, Int.reduceNeg, Int.reduceAdd, Int.reduceSub, Int.reduceMul, reduceIte, if_true, if_false, true_and, and_true, false_and, and_false, or_true, true_or, or_false, false_or, not_true_eq_false, not_false_eq_true, ite_not, z_b0, z_b1, z_b01, if_true]
end MEASURE
