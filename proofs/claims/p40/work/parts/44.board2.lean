/-! the board begun, its plots measured -/
theorem BV_zpr {m : zM} {o a : Int} {f : Int → Int} (h0 : a ≠ o) (h1 : a ≠ o + 1) (h2 : a ≠ o + 2) (h3 : a ≠ o + 3) (h : BV m o) : BV (zpr m a f) o := by
  unfold BV at *
  rw [zpr_ne (Ne.symm h0), zpr_ne (Ne.symm h1), zpr_ne (Ne.symm h2), zpr_ne (Ne.symm h3)]
  exact h
theorem zrw_if (f : Int → Int) (k v q : Int) : zrw f k v q = if q = k then v else f q := rfl
/-- the sets of plots that are near -/
def NF (w n : Int) (f : Int → Int) (p : Int) : Prop := ∀ d q, 1 ≤ d → d ≤ 14 → 0 ≤ q → q < 64 → zbt (f (p * 15 + d)) q = decide (q < n ∧ 1 ≤ zfar w p q ∧ zfar w p q ≤ d)
def NV (m : zM) (o : Int) : Prop := ∀ p, 0 ≤ p → p < m o 2 → NF (m o 0) (m o 2) (m (o + 5)) p
/-- measured up to a plot q of the row of p; rows behind it are empty -/
def NM1 (w n p q0 : Int) (f : Int → Int) : Prop := (∀ p', 0 ≤ p' → p' < p → NF w n f p') ∧ (p < n → ∀ d q, 0 ≤ d → d ≤ 14 → 0 ≤ q → q < 64 → zbt (f (p * 15 + d)) q = decide (q < q0 ∧ 1 ≤ d ∧ zfar w p q = d)) ∧ (∀ p' d q, p < p' → p' < 64 → 0 ≤ d → d ≤ 14 → 0 ≤ q → q < 64 → zbt (f (p' * 15 + d)) q = false)
/-- the row of p summed up to below d0 -/
def NM2 (w n p d0 : Int) (f : Int → Int) : Prop := (∀ p', 0 ≤ p' → p' < p → NF w n f p') ∧ (∀ d q, 0 ≤ d → d ≤ 14 → 0 ≤ q → q < 64 → zbt (f (p * 15 + d)) q = if d < d0 then decide (q < n ∧ 1 ≤ zfar w p q ∧ zfar w p q ≤ d) else decide (q < n ∧ 1 ≤ d ∧ zfar w p q = d)) ∧ (∀ p' d q, p < p' → p' < 64 → 0 ≤ d → d ≤ 14 → 0 ≤ q → q < 64 → zbt (f (p' * 15 + d)) q = false)
theorem NF_up {w n : Int} {f : Int → Int} {p : Int} {k v : Int} (h : NF w n f p) (hk : k < p * 15 ∨ p * 15 + 14 < k) : NF w n (zrw f k v) p := by
  intro d q h1 h2 h3 h4
  rw [zrw_ne (by omega)]
  exact h d q h1 h2 h3 h4
section BOARD2
variable {o : Int} {R m : zM}
theorem tz_measureNear (hB : BK R o) (hV : BV m o) : ∃ f : Int → Int, ev 14 0 [(2, o), (9, 0), (9, 0), (9, 0), (9, 0)] [] R m = some ((9, 0), R, zpr m (o + 5) f) ∧ NV (zpr m (o + 5) f) o := by
  have h64 := hV.2.2.2.2.2.1
  have hBV : ∀ f, BV (zpr m (o + 5) f) o := fun f => BV_zpr (by omega) (by omega) (by omega) (by omega) hV
  have F := fun m' : zM => fun f : Int → Int => fun p q : Int => tz_far (m := zpr m (o + 5) f) (p := p) (q := q) hB (hBV f)
  have F1 := tz_fillJ (a := o + 5) (n := 960) 0 (R := R) (m := m) (by have := hB; obtain ⟨hBK0, hBK1, hBK2, hBK3, hBK4, hBK5, hBK6, hBK7, hBK8, hBK9, hBK10, hBK11, hBK12, hBK13, hBK14, hBK15⟩ := this; assumption) (by have := hB; obtain ⟨hBK0, hBK1, hBK2, hBK3, hBK4, hBK5, hBK6, hBK7, hBK8, hBK9, hBK10, hBK11, hBK12, hBK13, hBK14, hBK15⟩ := this; assumption) (by omega) (by omega)
  obtain ⟨hBK0, hBK1, hBK2, hBK3, hBK4, hBK5, hBK6, hBK7, hBK8, hBK9, hBK10, hBK11, hBK12, hBK13, hBK14, hBK15⟩ := hB
  have e0 : ∀ f, zpr m (o + 5) f o = m o := fun f => zpr_ne (by omega)
  have e5 : ∀ f, zpr m (o + 5) f (o + 5) = f := fun f => zpr_at _ _ _
  simp only [e0] at F
  simp only [s14_0, s14_1, s14_4, s14_5, s14_8, s14_9, s14_11, s14_12, s14_15, s14_18, s14_19, s14_21, s14_24, s14_25, s14_27, s14_28, s14_29, s14_30, s14_32, s14_33, s14_36, s14_39, s14_40, s14_41, s14_42, s14_45, s14_47, s14_49, s14_50, s14_53, s14_55, s14_57, s14_60, s14_61, s14_64, s14_65, s14_67, s14_68, s14_69, s14_70, s14_71, s14_74, s14_75, s14_76, s14_79, s14_82, s14_83, s14_85, s14_87, s14_90, s14_91, s14_94, s14_95, s14_96, s14_97, s14_98, s14_99, s14_100, s14_103, s14_104, s14_105, s14_106, s14_107, s14_108, s14_109, s14_110, s14_111, s14_114, s14_117, s14_120, s14_123, zps_0, zps_1, zps_2, zps_3, zps_9, Option.bind_some, Option.bind_none, Int.reduceEq, Int.reduceNe, Int.reduceLT, Int.reduceLE, Int.reduceNeg, Int.reduceAdd, Int.reduceSub, Int.reduceMul, reduceIte, if_true, if_false, true_and, and_true, false_and, and_false, or_true, true_or, or_false, false_or, not_true_eq_false, not_false_eq_true, ite_not, z_b0, z_b1, z_b01, hBK0, hBK1, hBK2, hBK3, hBK4, hBK5, hBK6, hBK7, hBK8, hBK9, hBK10, hBK11, hBK12, hBK13, hBK14, hBK15, F1]
  have key : ∀ k (a : (Int → Int) × zV × zV × zV), k ≤ m o 2 → (0 ≤ k ∧ NM1 (m o 0) (m o 2) k 0 a.1) → ∃ f : Int → Int, ev 14 10 [(2, o), (0, k), a.2.1, a.2.2.1, a.2.2.2] [] R (zpr m (o + 5) a.1) = some ((9, 0), R, zpr m (o + 5) f) ∧ NV (zpr m (o + 5) f) o := by
    refine zloop (fun r => ∃ f : Int → Int, r = some ((9, 0), R, zpr m (o + 5) f) ∧ NV (zpr m (o + 5) f) o) (fun k (a : (Int → Int) × zV × zV × zV) => ev 14 10 [(2, o), (0, k), a.2.1, a.2.2.1, a.2.2.2] [] R (zpr m (o + 5) a.1)) (m o 2) (fun k a => 0 ≤ k ∧ NM1 (m o 0) (m o 2) k 0 a.1) ?_ ?_
    · intro p ⟨f0, l2, l3, l4⟩ hp ⟨hp0, hI⟩ ih
      rw [s14_10]
      simp only [s14_0, s14_1, s14_4, s14_5, s14_8, s14_9, s14_11, s14_12, s14_15, s14_18, s14_19, s14_21, s14_24, s14_25, s14_27, s14_28, s14_29, s14_30, s14_32, s14_33, s14_36, s14_39, s14_40, s14_41, s14_42, s14_45, s14_47, s14_49, s14_50, s14_53, s14_55, s14_57, s14_60, s14_61, s14_64, s14_65, s14_67, s14_68, s14_69, s14_70, s14_71, s14_74, s14_75, s14_76, s14_79, s14_82, s14_83, s14_85, s14_87, s14_90, s14_91, s14_94, s14_95, s14_96, s14_97, s14_98, s14_99, s14_100, s14_103, s14_104, s14_105, s14_106, s14_107, s14_108, s14_109, s14_110, s14_111, s14_114, s14_117, s14_120, s14_123, zps_0, zps_1, zps_2, zps_3, zps_9, Option.bind_some, Option.bind_none, Int.reduceEq, Int.reduceNe, Int.reduceLT, Int.reduceLE, Int.reduceNeg, Int.reduceAdd, Int.reduceSub, Int.reduceMul, reduceIte, if_true, if_false, true_and, and_true, false_and, and_false, or_true, true_or, or_false, false_or, not_true_eq_false, not_false_eq_true, ite_not, z_b0, z_b1, z_b01, hBK0, hBK1, hBK2, hBK3, hBK4, hBK5, hBK6, hBK7, hBK8, hBK9, hBK10, hBK11, hBK12, hBK13, hBK14, hBK15, e0]
      rw [if_neg (by omega), if_neg (by omega), zw_i (x := p * 15) (by omega) (by omega)]
      refine zloop (fun r => ∃ f : Int → Int, r = some ((9, 0), R, zpr m (o + 5) f) ∧ NV (zpr m (o + 5) f) o) (fun q (a : (Int → Int) × zV) => ev 14 31 [(2, o), (0, p), (0, p * 15), (0, q), a.2] [] R (zpr m (o + 5) a.1)) (m o 2) (fun q a => 0 ≤ q ∧ NM1 (m o 0) (m o 2) p q a.1) ?_ ?_ 0 (f0, l4) (by omega) ⟨Int.le_refl _, hI⟩
      · intro q ⟨f, l4⟩ hq ⟨hq0, hJ⟩ ih2
        rw [s14_31]
        simp only [s14_0, s14_1, s14_4, s14_5, s14_8, s14_9, s14_11, s14_12, s14_15, s14_18, s14_19, s14_21, s14_24, s14_25, s14_27, s14_28, s14_29, s14_30, s14_32, s14_33, s14_36, s14_39, s14_40, s14_41, s14_42, s14_45, s14_47, s14_49, s14_50, s14_53, s14_55, s14_57, s14_60, s14_61, s14_64, s14_65, s14_67, s14_68, s14_69, s14_70, s14_71, s14_74, s14_75, s14_76, s14_79, s14_82, s14_83, s14_85, s14_87, s14_90, s14_91, s14_94, s14_95, s14_96, s14_97, s14_98, s14_99, s14_100, s14_103, s14_104, s14_105, s14_106, s14_107, s14_108, s14_109, s14_110, s14_111, s14_114, s14_117, s14_120, s14_123, zps_0, zps_1, zps_2, zps_3, zps_9, Option.bind_some, Option.bind_none, Int.reduceEq, Int.reduceNe, Int.reduceLT, Int.reduceLE, Int.reduceNeg, Int.reduceAdd, Int.reduceSub, Int.reduceMul, reduceIte, if_true, if_false, true_and, and_true, false_and, and_false, or_true, true_or, or_false, false_or, not_true_eq_false, not_false_eq_true, ite_not, z_b0, z_b1, z_b01, hBK0, hBK1, hBK2, hBK3, hBK4, hBK5, hBK6, hBK7, hBK8, hBK9, hBK10, hBK11, hBK12, hBK13, hBK14, hBK15, e0, F m f p q ⟨hp0, hp⟩ ⟨hq0, hq⟩, tz_bit, e5]
        rw [if_neg (by omega), zw_i (x := q + 1) (by omega) (by omega)]
        by_cases hd : 1 ≤ zfar (m o 0) p q ∧ zfar (m o 0) p q ≤ 14
        · rw [if_neg (by omega), if_neg (by omega), zw_i (by omega) (by omega), if_pos (by omega), if_pos (by omega)]
          simp only [zup_zpr, zpr_at, zpr_zpr, zrw_at]
          refine ih2 (zrw f (p * 15 + zfar (m o 0) p q) (zset (f (p * 15 + zfar (m o 0) p q)) q), (0, zfar (m o 0) p q)) ⟨by omega, ?_⟩
          refine ⟨fun p' h1 h2 => NF_up (hJ.1 p' h1 h2) (by omega), ?_, ?_⟩
          · intro _ d q' h1 h2 h3 h4
            dsimp only
            rw [zrw_if]
            by_cases hdd : d = zfar (m o 0) p q
            · subst hdd
              rw [if_pos rfl, zbt_set ⟨hq0, by omega⟩ ⟨h3, h4⟩, hJ.2.1 hp _ q' h1 h2 h3 h4]
              by_cases hqq : q' = q
              · subst hqq; simp; omega
              · simp only [hqq, decide_false, Bool.or_false, decide_eq_decide]; omega
            · rw [if_neg (by omega), hJ.2.1 hp _ q' h1 h2 h3 h4, decide_eq_decide]
              by_cases hqq : q' = q
              · subst hqq; omega
              · omega
          · intro p' d q' h1 h2 h3 h4 h5 h6
            dsimp only
            rw [zrw_ne (by omega)]
            exact hJ.2.2 p' d q' h1 h2 h3 h4 h5 h6
        · have : ∀ x y : Option zR, (if zfar (m o 0) p q < 1 then x else if 14 < zfar (m o 0) p q then x else y) = x := by
            intro x y
            split
            · rfl
            · rw [if_pos (by omega)]
          rw [this]
          refine ih2 (f, (0, zfar (m o 0) p q)) ⟨by omega, hJ.1, ?_, hJ.2.2⟩
          intro _ d q' h1 h2 h3 h4
          rw [hJ.2.1 hp _ q' h1 h2 h3 h4, decide_eq_decide]
          by_cases hqq : q' = q
          · subst hqq; omega
          · omega
      · intro ⟨f, l4⟩ ⟨hq0, hJ⟩
        rw [s14_31]
        simp only [s14_0, s14_1, s14_4, s14_5, s14_8, s14_9, s14_11, s14_12, s14_15, s14_18, s14_19, s14_21, s14_24, s14_25, s14_27, s14_28, s14_29, s14_30, s14_32, s14_33, s14_36, s14_39, s14_40, s14_41, s14_42, s14_45, s14_47, s14_49, s14_50, s14_53, s14_55, s14_57, s14_60, s14_61, s14_64, s14_65, s14_67, s14_68, s14_69, s14_70, s14_71, s14_74, s14_75, s14_76, s14_79, s14_82, s14_83, s14_85, s14_87, s14_90, s14_91, s14_94, s14_95, s14_96, s14_97, s14_98, s14_99, s14_100, s14_103, s14_104, s14_105, s14_106, s14_107, s14_108, s14_109, s14_110, s14_111, s14_114, s14_117, s14_120, s14_123, zps_0, zps_1, zps_2, zps_3, zps_9, Option.bind_some, Option.bind_none, Int.reduceEq, Int.reduceNe, Int.reduceLT, Int.reduceLE, Int.reduceNeg, Int.reduceAdd, Int.reduceSub, Int.reduceMul, reduceIte, if_true, if_false, true_and, and_true, false_and, and_false, or_true, true_or, or_false, false_or, not_true_eq_false, not_false_eq_true, ite_not, z_b0, z_b1, z_b01, hBK0, hBK1, hBK2, hBK3, hBK4, hBK5, hBK6, hBK7, hBK8, hBK9, hBK10, hBK11, hBK12, hBK13, hBK14, hBK15, e0]
        rw [if_pos (by omega)]
        refine zloop (fun r => ∃ f : Int → Int, r = some ((9, 0), R, zpr m (o + 5) f) ∧ NV (zpr m (o + 5) f) o) (fun d (a : Int → Int) => ev 14 84 [(2, o), (0, p), (0, p * 15), (0, d), l4] [] R (zpr m (o + 5) a)) 15 (fun d a => 1 ≤ d ∧ NM2 (m o 0) (m o 2) p d a) ?_ ?_ 1 f (by omega) ⟨by omega, hJ.1, ?_, hJ.2.2⟩
        · intro d g hd ⟨hd0, hL⟩ ih3
          rw [s14_84]
          simp only [s14_0, s14_1, s14_4, s14_5, s14_8, s14_9, s14_11, s14_12, s14_15, s14_18, s14_19, s14_21, s14_24, s14_25, s14_27, s14_28, s14_29, s14_30, s14_32, s14_33, s14_36, s14_39, s14_40, s14_41, s14_42, s14_45, s14_47, s14_49, s14_50, s14_53, s14_55, s14_57, s14_60, s14_61, s14_64, s14_65, s14_67, s14_68, s14_69, s14_70, s14_71, s14_74, s14_75, s14_76, s14_79, s14_82, s14_83, s14_85, s14_87, s14_90, s14_91, s14_94, s14_95, s14_96, s14_97, s14_98, s14_99, s14_100, s14_103, s14_104, s14_105, s14_106, s14_107, s14_108, s14_109, s14_110, s14_111, s14_114, s14_117, s14_120, s14_123, zps_0, zps_1, zps_2, zps_3, zps_9, Option.bind_some, Option.bind_none, Int.reduceEq, Int.reduceNe, Int.reduceLT, Int.reduceLE, Int.reduceNeg, Int.reduceAdd, Int.reduceSub, Int.reduceMul, reduceIte, if_true, if_false, true_and, and_true, false_and, and_false, or_true, true_or, or_false, false_or, not_true_eq_false, not_false_eq_true, ite_not, z_b0, z_b1, z_b01, hBK0, hBK1, hBK2, hBK3, hBK4, hBK5, hBK6, hBK7, hBK8, hBK9, hBK10, hBK11, hBK12, hBK13, hBK14, hBK15, e0, e5]
          rw [if_neg (by omega), zw_i (x := d + 1) (by omega) (by omega), zw_i (x := p * 15 + d) (by omega) (by omega), zw_i (x := p * 15 + d - 1) (by omega) (by omega), if_pos (by omega), if_pos (by omega), if_pos (by omega)]
          simp only [zup_zpr, zpr_at, zpr_zpr, zrw_at]
          refine ih3 _ ⟨by omega, fun p' h1 h2 => NF_up (hL.1 p' h1 h2) (by omega), ?_, ?_⟩
          · intro d' q' h1 h2 h3 h4
            rw [zrw_if]
            by_cases hdd : d' = d
            · subst hdd
              rw [if_pos rfl, if_pos (by omega), zbt_or, hL.2.1 _ q' h1 h2 h3 h4, show p * 15 + d' - 1 = p * 15 + (d' - 1) by omega, hL.2.1 (d' - 1) q' (by omega) (by omega) h3 h4, if_neg (by omega), if_pos (by omega), ← Bool.decide_or, decide_eq_decide]
              omega
            · rw [if_neg (by omega), hL.2.1 _ q' h1 h2 h3 h4]
              by_cases h5 : d' < d
              · rw [if_pos h5, if_pos (by omega)]
              · rw [if_neg h5, if_neg (by omega)]
          · intro p' d' q' h1 h2 h3 h4 h5 h6
            rw [zrw_ne (by omega)]
            exact hL.2.2 p' d' q' h1 h2 h3 h4 h5 h6
        · intro g ⟨hd0, hL⟩
          rw [s14_84]
          simp only [s14_0, s14_1, s14_4, s14_5, s14_8, s14_9, s14_11, s14_12, s14_15, s14_18, s14_19, s14_21, s14_24, s14_25, s14_27, s14_28, s14_29, s14_30, s14_32, s14_33, s14_36, s14_39, s14_40, s14_41, s14_42, s14_45, s14_47, s14_49, s14_50, s14_53, s14_55, s14_57, s14_60, s14_61, s14_64, s14_65, s14_67, s14_68, s14_69, s14_70, s14_71, s14_74, s14_75, s14_76, s14_79, s14_82, s14_83, s14_85, s14_87, s14_90, s14_91, s14_94, s14_95, s14_96, s14_97, s14_98, s14_99, s14_100, s14_103, s14_104, s14_105, s14_106, s14_107, s14_108, s14_109, s14_110, s14_111, s14_114, s14_117, s14_120, s14_123, zps_0, zps_1, zps_2, zps_3, zps_9, Option.bind_some, Option.bind_none, Int.reduceEq, Int.reduceNe, Int.reduceLT, Int.reduceLE, Int.reduceNeg, Int.reduceAdd, Int.reduceSub, Int.reduceMul, reduceIte, if_true, if_false, true_and, and_true, false_and, and_false, or_true, true_or, or_false, false_or, not_true_eq_false, not_false_eq_true, ite_not, z_b0, z_b1, z_b01, hBK0, hBK1, hBK2, hBK3, hBK4, hBK5, hBK6, hBK7, hBK8, hBK9, hBK10, hBK11, hBK12, hBK13, hBK14, hBK15, e0, e5]
          rw [zw_i (x := p + 1) (by omega) (by omega)]
          refine ih (g, (0, p * 15), (0, 15), l4) ⟨by omega, ?_, ?_, ?_⟩
          · intro p' h1 h2
            by_cases hpp : p' = p
            · subst hpp
              intro d q h3 h4 h5 h6
              rw [hL.2.1 d q (by omega) h4 h5 h6, if_pos (by omega)]
            · exact hL.1 p' h1 (by omega)
          · intro hpn d q h1 h2 h3 h4
            rw [hL.2.2 (p + 1) d q (by omega) (by omega) h1 h2 h3 h4]
            symm
            simp
            omega
          · intro p' d q h1 h2 h3 h4 h5 h6
            exact hL.2.2 p' d q (by omega) h2 h3 h4 h5 h6
        · intro d q h1 h2 h3 h4
          rw [hJ.2.1 hp d q h1 h2 h3 h4]
          split
          · rw [decide_eq_decide]; omega
          · rfl
    · intro ⟨f, l2, l3, l4⟩ ⟨hp0, hI⟩
      rw [s14_10]
      simp only [s14_0, s14_1, s14_4, s14_5, s14_8, s14_9, s14_11, s14_12, s14_15, s14_18, s14_19, s14_21, s14_24, s14_25, s14_27, s14_28, s14_29, s14_30, s14_32, s14_33, s14_36, s14_39, s14_40, s14_41, s14_42, s14_45, s14_47, s14_49, s14_50, s14_53, s14_55, s14_57, s14_60, s14_61, s14_64, s14_65, s14_67, s14_68, s14_69, s14_70, s14_71, s14_74, s14_75, s14_76, s14_79, s14_82, s14_83, s14_85, s14_87, s14_90, s14_91, s14_94, s14_95, s14_96, s14_97, s14_98, s14_99, s14_100, s14_103, s14_104, s14_105, s14_106, s14_107, s14_108, s14_109, s14_110, s14_111, s14_114, s14_117, s14_120, s14_123, zps_0, zps_1, zps_2, zps_3, zps_9, Option.bind_some, Option.bind_none, Int.reduceEq, Int.reduceNe, Int.reduceLT, Int.reduceLE, Int.reduceNeg, Int.reduceAdd, Int.reduceSub, Int.reduceMul, reduceIte, if_true, if_false, true_and, and_true, false_and, and_false, or_true, true_or, or_false, false_or, not_true_eq_false, not_false_eq_true, ite_not, z_b0, z_b1, z_b01, hBK0, hBK1, hBK2, hBK3, hBK4, hBK5, hBK6, hBK7, hBK8, hBK9, hBK10, hBK11, hBK12, hBK13, hBK14, hBK15, e0]
      rw [if_pos (by omega)]
      refine ⟨f, rfl, ?_⟩
      intro p h1 h2
      rw [e0] at h2 ⊢
      rw [e5]
      exact hI.1 p h1 h2
  refine key 0 (zfll (m (o + 5)) 960 0, (9, 0), (9, 0), (9, 0)) (by have := hV.2.2.2.2.2.2.1; omega) ⟨by omega, fun p' h1 h2 => by omega, ?_, ?_⟩
  · intro _ d q h1 h2 h3 h4
    dsimp only
    rw [zfll_at ⟨by omega, by omega⟩, zbt_0]
    symm
    simp
    omega
  · intro p' d q h1 h2 h3 h4 h5 h6
    dsimp only
    rw [zfll_at ⟨by omega, by omega⟩, zbt_0]
end BOARD2
