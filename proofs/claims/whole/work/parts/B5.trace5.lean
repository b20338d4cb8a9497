/-! the class traces, whole -/
def zpv (w : zM) (D : Int → Int) (a : Int) : Nat → Int → Bool
  | 0 => fun s => decide (s = a)
  | i + 1 => znx w D (zpw w D a i).2 (zlst w D (zpw w D a i).2)
section TRACE5
variable {R m w : zM} {D : Int → Int} {H : Int → Bool} {p to a : Int}
theorem zpv_c (i : Nat) : (zpw w D a i).2 = cH w D (zpv w D a i) (zpw w D a i).1 := by
  cases i with
  | zero => simp only [zpw, zpv]
  | succ i => simp only [zpw, zpv]
theorem TQ_tr {x y z : zM} (h : TQ x y) (g : TQ y z) : TQ x z := ⟨fun b b0 b1 => (g.1 b b0 b1).trans (h.1 b b0 b1), fun k k0 k1 k2 => (g.2 k k0 k1 k2).trans (h.2 k k0 k1 k2)⟩
theorem tz_tstep (hWK : WK R) (hB : BK R 3) (hT : CTr m w D) (hS : wStop w) (hH : HI w H p) (hH2 : HI w (cH w D H p) p) (hA : AB H p (m 70 13) (m 70 14)) {i : Int} (hi : 0 ≤ i ∧ i < 88) (l4 : zV) : ∃ x' : zM, ev 165 28 [(2, 70), (0, a), (0, p), (0, i), l4] [] R m = ev 165 28 [(2, 70), (0, a), (0, zlst w D (cH w D H p)), (0, i + 1), (0, zlst w D (cH w D H p))] [] R x' ∧ TQ m x' ∧ x' 70 11 = i + 1 ∧ x' 78 = zrw (m 78) i p ∧ (0 ≤ zlst w D (cH w D H p) → zlst w D (cH w D H p) < 64 → AB (znx w D (cH w D H p) (zlst w D (cH w D H p))) (zlst w D (cH w D H p)) (x' 70 13) (x' 70 14)) := by
  have hp := hH.1
  have c1 : ¬ 88 ≤ i := by omega
  have c2 : i < 88 := hi.2
  have c3 : ¬ p < 0 := by omega
  have c4 : 0 ≤ p := hp.1
  have z : zw (i + 1) = i + 1 := zw_i (by omega) (by omega)
  obtain ⟨y, hy⟩ : ∃ y, zup (zup m 78 i p) 70 11 (i + 1) = y := ⟨_, rfl⟩
  have y70 : ∀ k, k ≠ 11 → y 70 k = m 70 k := fun k hk => by rw [← hy, zup_ne (Or.inr hk), zup_row (by decide)]
  have ty : TQ m y := ⟨fun b b0 b1 => by rw [← hy, zup_row b0, zup_row b1], fun k k0 _ _ => y70 k k0⟩
  have y11 : y 70 11 = i + 1 := by rw [← hy, zup_at]
  have y78 : y 78 = zrw (m 78) i p := by rw [← hy, zup_row (by decide), zup_self]
  have L0 : ev 165 28 [(2, 70), (0, a), (0, p), (0, i), l4] [] R m = ev 165 54 [(2, 70), (0, a), (0, p), (0, i), l4] [(0, p), (2, 70)] R y := by
    rw [s165_28, ← hy]
    simp only [s165_0, s165_1, s165_2, s165_5, s165_6, s165_7, s165_10, s165_13, s165_14, s165_15, s165_16, s165_17, s165_18, s165_21, s165_22, s165_23, s165_26, s165_27, s165_29, s165_31, s165_34, s165_35, s165_38, s165_39, s165_42, s165_43, s165_44, s165_45, s165_46, s165_47, s165_48, s165_49, s165_52, s165_53, s165_57, s165_58, s165_59, s165_62, s165_64, s165_65, s165_66, s165_68, s165_71, s165_73, s165_74, s165_77, s165_80, zps_0, zps_1, zps_2, zps_3, zps_9, Option.bind_some, Option.bind_none, Int.reduceEq, Int.reduceNe, Int.reduceLT, Int.reduceLE, Int.reduceNeg, Int.reduceAdd, Int.reduceSub, Int.reduceMul, reduceIte, if_true, if_false, true_and, and_true, false_and, and_false, or_true, true_or, or_false, false_or, not_true_eq_false, not_false_eq_true, ite_not, z_b0, z_b1, z_b01, rWK0 hWK, rWK1 hWK, rWK2 hWK, rWK3 hWK, rWK4 hWK, rWK5 hWK, rWK6 hWK, rWK7 hWK, rWK8 hWK, kWK0, kWK1, kWK2, kWK3, kWK4, kWK5, kWK6, kWK7, kWK8, kWK9, kWK10, kWK11, kWK12, kWK13, kWK14, kWK15, kWK16, hi, c1, c2, c3, c4, z, and_self, if_true, if_false]
  clear hy
  have hT1 := CTr_c ty hT
  obtain ⟨f1, x1, e1, A1⟩ := tz_changeAt hWK hB hT1 hH (by rw [y70 13 (by decide), y70 14 (by decide)]; exact hA)
  have t1 := TQ_zAB y f1 x1
  have hT2 := CTr_c t1 hT1
  obtain ⟨m2, hm2⟩ : ∃ m2, zAB y f1 x1 = m2 := ⟨_, rfl⟩
  have a2 : AB (cH w D H p) p (m2 70 13) (m2 70 14) := by rw [← hm2, zAB_f, zAB_x]; exact A1
  rw [hm2] at e1 t1 hT2
  have N2 := tz_nextPlot hWK hT2 hS hH2 a2
  obtain ⟨f3, x3, e3, A3⟩ := tz_goOn hWK hT2 hS hH2 a2 (zlst w D (cH w D H p))
  have t3 := TQ_zAB m2 f3 x3
  have k11 : zAB m2 f3 x3 70 11 = i + 1 := by rw [zAB_k m2 f3 x3 (by decide), ← hm2, zAB_k y f1 x1 (by decide), y11]
  have k78 : zAB m2 f3 x3 78 = zrw (m 78) i p := by rw [zAB_b m2 f3 x3 (by decide), ← hm2, zAB_b y f1 x1 (by decide), y78]
  refine ⟨zAB m2 f3 x3, ?_, TQ_tr ty (TQ_tr t1 t3), k11, k78, fun v0 v1 => by rw [zAB_f, zAB_x]; exact A3 v0 v1⟩
  rw [L0]
  simp only [s165_0, s165_1, s165_2, s165_5, s165_6, s165_7, s165_10, s165_13, s165_14, s165_15, s165_16, s165_17, s165_18, s165_21, s165_22, s165_23, s165_26, s165_27, s165_29, s165_31, s165_34, s165_35, s165_38, s165_39, s165_42, s165_43, s165_44, s165_45, s165_46, s165_47, s165_48, s165_49, s165_52, s165_53, s165_54, s165_57, s165_58, s165_59, s165_62, s165_64, s165_65, s165_66, s165_68, s165_71, s165_73, s165_74, s165_77, s165_80, zps_0, zps_1, zps_2, zps_3, zps_9, Option.bind_some, Option.bind_none, Int.reduceEq, Int.reduceNe, Int.reduceLT, Int.reduceLE, Int.reduceNeg, Int.reduceAdd, Int.reduceSub, Int.reduceMul, reduceIte, if_true, if_false, true_and, and_true, false_and, and_false, or_true, true_or, or_false, false_or, not_true_eq_false, not_false_eq_true, ite_not, z_b0, z_b1, z_b01, rWK0 hWK, rWK1 hWK, rWK2 hWK, rWK3 hWK, rWK4 hWK, rWK5 hWK, rWK6 hWK, rWK7 hWK, rWK8 hWK, kWK0, kWK1, kWK2, kWK3, kWK4, kWK5, kWK6, kWK7, kWK8, kWK9, kWK10, kWK11, kWK12, kWK13, kWK14, kWK15, kWK16, e1, N2, e3, z]
/-- the class traces the way that is laid -/
theorem tz_trace (hWK : WK R) (hB : BK R 3) (hT : CTr m w D) (hS : wStop w) (hD : DFn w D to) (hto : 0 ≤ to ∧ to < 64) (ha : 0 ≤ a ∧ a < 64) (hr : D a < 1000000) {N : Nat} (hN : zpe w D a to N) (hN2 : N ≤ 87) : ∃ x : zM, ev 165 0 [(2, 70), (0, a), (9, 0), (9, 0), (9, 0)] [] R m = some ((9, 0), R, x) ∧ TQ m x ∧ x 70 11 = N + 1 ∧ ∀ i : Nat, i ≤ N → x 78 i = (zpw w D a i).1 := by
  have hV := hT.2.1.1.2.1
  have hC := hT.2.2.2.1
  have sa : wSt w a = true := by rcases hD.1 a ha.1 (by omega) with q | q; omega; exact q.2.2
  have hK := (rk_b (D := D) (s := a) ha.1 (by omega)).2
  obtain ⟨y, hy⟩ : ∃ y, zAB (zup m 70 11 0) 1 0 = y := ⟨_, rfl⟩
  have ty : TQ m y := by
    refine ⟨fun b b0 b1 => ?_, fun k k0 k1 k2 => ?_⟩
    · rw [← hy, zAB_b _ _ _ b0, zup_row b0]
    · rw [← hy, zAB_k _ _ _ ⟨k1, k2⟩, zup_ne (Or.inr k0)]
  have RE2 : ev 164 0 [(2, 70), (0, a)] [] R (zup m 70 11 0) = some ((0, 1), R, zup m 70 11 0) := by
    have RE := tz_reaches (m := zup m 70 11 0) hWK a
    rw [if_pos (show 0 ≤ a ∧ a < 88 by omega), zup_row (by decide), (hT.2.2.2.2 a ha.1 (by omega)).1, if_pos hr] at RE
    exact RE
  have L0 : ev 165 0 [(2, 70), (0, a), (9, 0), (9, 0), (9, 0)] [] R m = ev 165 28 [(2, 70), (0, a), (0, a), (0, 0), (9, 0)] [] R y := by
    have k : zup (zup (zup m 70 11 0) 70 13 1) 70 14 0 = y := by
      rw [← hy]
      have := zAB_13 (zup m 70 11 0) (zup m 70 11 0 70 13) (zup m 70 11 0 70 14) 1
      rw [zAB_self] at this
      rw [this, zAB_14]
    rw [← k]
    simp only [s165_0, s165_1, s165_2, s165_5, s165_6, s165_7, s165_10, s165_13, s165_14, s165_15, s165_16, s165_17, s165_18, s165_21, s165_22, s165_23, s165_26, s165_27, s165_29, s165_31, s165_34, s165_35, s165_38, s165_39, s165_42, s165_43, s165_44, s165_45, s165_46, s165_47, s165_48, s165_49, s165_52, s165_53, s165_54, s165_57, s165_58, s165_59, s165_62, s165_64, s165_65, s165_66, s165_68, s165_71, s165_73, s165_74, s165_77, s165_80, zps_0, zps_1, zps_2, zps_3, zps_9, Option.bind_some, Option.bind_none, Int.reduceEq, Int.reduceNe, Int.reduceLT, Int.reduceLE, Int.reduceNeg, Int.reduceAdd, Int.reduceSub, Int.reduceMul, reduceIte, if_true, if_false, true_and, and_true, false_and, and_false, or_true, true_or, or_false, false_or, not_true_eq_false, not_false_eq_true, ite_not, z_b0, z_b1, z_b01, rWK0 hWK, rWK1 hWK, rWK2 hWK, rWK3 hWK, rWK4 hWK, rWK5 hWK, rWK6 hWK, rWK7 hWK, rWK8 hWK, kWK0, kWK1, kWK2, kWK3, kWK4, kWK5, kWK6, kWK7, kWK8, kWK9, kWK10, kWK11, kWK12, kWK13, kWK14, kWK15, kWK16, RE2, if_true, if_false, true_or, or_true]
  have y0 : AB (zpv w D a 0) (zpw w D a 0).1 (y 70 13) (y 70 14) := by
    rw [← hy, zAB_f, zAB_x]
    refine ⟨?_, by unfold zi32; omega, fun b b0 b1 => ?_, fun b b0 b1 => ybt_0 b⟩
    · show (1 : Int) = if decide (a = a) = true then 1 else 0
      simp
    · rw [ybt_0]
      show false = decide (64 + b = a)
      rw [decide_eq_false (by omega)]
  have hiPI := fun (k : Nat) (hk : k ≤ N) => zps_PI (K := 87) hV hC hS hD hto ha hr hK k (fun j hj => hN.2 j (by omega))
  have hiPre : ∀ k : Nat, k ≤ N → HI w (zpv w D a k) (zpw w D a k).1 := by
    intro k hk
    cases k with
    | zero => exact ⟨ha, fun s s0 s1 hs => by have e := of_decide_eq_true hs; rw [e]; exact ⟨sa, wPl_lo ha.2⟩⟩
    | succ k =>
      obtain ⟨hP, hCl⟩ := hiPI k (by omega)
      have hn := hN.2 k (by omega)
      obtain ⟨s, ⟨s0, s1⟩, hs⟩ := hP.2.2
      obtain ⟨u, t, hu, ht, hhu, hg⟩ := move_ex hD hP.1 (fun s s0 s1 hs => (hP.2.1 s s0 s1 hs).1) hCl hn (2 * D s + 2).toNat s s0 s1 hs (by
        have := (hT.2.2.2.2 s s0 s1).2.1
        split <;> omega)
      have hm : 0 ≤ zlst w D (zpw w D a k).2 := by
        rcases zlst_ok (D := D) (H := (zpw w D a k).2) hS with ⟨-, q⟩ | ⟨q, -⟩
        · exact absurd (q u t hu.1 hu.2 ht.1 ht.2 hhu hg) (fun z => z)
        · exact q.1
      have := (PI_next hV hC hS hD hP hm).1
      simp only [zpv, zpw]
      exact this
  have key : ∀ k : Nat, k ≤ N → ∃ (x : zM) (l4 : zV), ev 165 28 [(2, 70), (0, a), (0, a), (0, 0), (9, 0)] [] R y = ev 165 28 [(2, 70), (0, a), (0, (zpw w D a k).1), (0, (k : Int)), l4] [] R x ∧ TQ m x ∧ (∀ i : Nat, i < k → x 78 i = (zpw w D a i).1) ∧ AB (zpv w D a k) (zpw w D a k).1 (x 70 13) (x 70 14) := by
    intro k
    induction k with
    | zero =>
      intro _
      exact ⟨y, (9, 0), rfl, ty, fun i hi => by omega, y0⟩
    | succ k ih =>
      intro hk
      obtain ⟨x, l4, e1, h1, h3, h4⟩ := ih (by omega)
      have hP := hiPI k (by omega)
      obtain ⟨x', e2, g1, g2, g3, g4⟩ := tz_tstep (R := R) (a := a) hWK hB (CTr_c h1 hT) hS (hiPre k (by omega)) (by rw [← zpv_c]; exact hP.1.1) h4 (i := (k : Int)) ⟨by omega, by omega⟩ l4
      rw [← zpv_c] at e2 g4
      have hp1 := (hiPre (k + 1) hk).1
      have e5 : (zpw w D a (k + 1)).1 = zlst w D (zpw w D a k).2 := by rw [zpw]
      rw [e5] at hp1 ⊢
      have g5 := g4 hp1.1 hp1.2
      rw [← zpv] at g5
      refine ⟨x', (0, zlst w D (zpw w D a k).2), ?_, TQ_tr h1 g1, fun i hi => ?_, g5⟩
      · rw [e1, e2]
        rfl
      · rw [g3, zrw_if]
        by_cases e : i = k
        · subst e
          rw [if_pos rfl]
        · rw [if_neg (by omega)]; exact h3 i (by omega)
  obtain ⟨x, l4, e1, h1, h3, h4⟩ := key N (Nat.le_refl _)
  have hP := hiPI N (Nat.le_refl _)
  obtain ⟨x', e2, g1, g2, g3, g4⟩ := tz_tstep (R := R) (a := a) hWK hB (CTr_c h1 hT) hS (hiPre N (Nat.le_refl _)) (by rw [← zpv_c]; exact hP.1.1) h4 (i := (N : Int)) ⟨by omega, by omega⟩ l4
  rw [← zpv_c] at e2
  have hm : zlst w D (zpw w D a N).2 = -1 := by
    rcases zlst_ok (D := D) (H := (zpw w D a N).2) hS with ⟨q, -⟩ | ⟨-, ⟨s, t, hs, ht, hh, hg, -⟩, -⟩
    · exact q
    · exact absurd (move_no hV hC hD hto.2 hP.1.1 (fun s s0 s1 hs => (hP.1.2.1 s s0 s1 hs).1) hto.1 hN.1 s t hs.1 hs.2 ht.1 ht.2 hh hg) (fun z => z)
  refine ⟨x', ?_, TQ_tr h1 g1, g2, fun i hi => ?_⟩
  · rw [L0, e1, e2, hm, s165_28]
    by_cases c : (N : Int) + 1 < 88
    · have c' : ¬ (88 : Int) ≤ (N : Int) + 1 := by omega
      simp only [s165_0, s165_1, s165_2, s165_5, s165_6, s165_7, s165_10, s165_13, s165_14, s165_15, s165_16, s165_17, s165_18, s165_21, s165_22, s165_23, s165_26, s165_27, s165_29, s165_31, s165_34, s165_35, s165_38, s165_39, s165_42, s165_43, s165_44, s165_45, s165_46, s165_47, s165_48, s165_49, s165_52, s165_53, s165_54, s165_57, s165_58, s165_59, s165_62, s165_64, s165_65, s165_66, s165_68, s165_71, s165_73, s165_74, s165_77, s165_80, zps_0, zps_1, zps_2, zps_3, zps_9, Option.bind_some, Option.bind_none, Int.reduceEq, Int.reduceNe, Int.reduceLT, Int.reduceLE, Int.reduceNeg, Int.reduceAdd, Int.reduceSub, Int.reduceMul, reduceIte, if_true, if_false, true_and, and_true, false_and, and_false, or_true, true_or, or_false, false_or, not_true_eq_false, not_false_eq_true, ite_not, z_b0, z_b1, z_b01, rWK0 hWK, rWK1 hWK, rWK2 hWK, rWK3 hWK, rWK4 hWK, rWK5 hWK, rWK6 hWK, rWK7 hWK, rWK8 hWK, kWK0, kWK1, kWK2, kWK3, kWK4, kWK5, kWK6, kWK7, kWK8, kWK9, kWK10, kWK11, kWK12, kWK13, kWK14, kWK15, kWK16, c, c', if_true, if_false]
    · have c' : (88 : Int) ≤ (N : Int) + 1 := by omega
      simp only [s165_0, s165_1, s165_2, s165_5, s165_6, s165_7, s165_10, s165_13, s165_14, s165_15, s165_16, s165_17, s165_18, s165_21, s165_22, s165_23, s165_26, s165_27, s165_29, s165_31, s165_34, s165_35, s165_38, s165_39, s165_42, s165_43, s165_44, s165_45, s165_46, s165_47, s165_48, s165_49, s165_52, s165_53, s165_54, s165_57, s165_58, s165_59, s165_62, s165_64, s165_65, s165_66, s165_68, s165_71, s165_73, s165_74, s165_77, s165_80, zps_0, zps_1, zps_2, zps_3, zps_9, Option.bind_some, Option.bind_none, Int.reduceEq, Int.reduceNe, Int.reduceLT, Int.reduceLE, Int.reduceNeg, Int.reduceAdd, Int.reduceSub, Int.reduceMul, reduceIte, if_true, if_false, true_and, and_true, false_and, and_false, or_true, true_or, or_false, false_or, not_true_eq_false, not_false_eq_true, ite_not, z_b0, z_b1, z_b01, rWK0 hWK, rWK1 hWK, rWK2 hWK, rWK3 hWK, rWK4 hWK, rWK5 hWK, rWK6 hWK, rWK7 hWK, rWK8 hWK, kWK0, kWK1, kWK2, kWK3, kWK4, kWK5, kWK6, kWK7, kWK8, kWK9, kWK10, kWK11, kWK12, kWK13, kWK14, kWK15, kWK16, c, c', if_true, if_false]
  · rw [g3, zrw_if]
    by_cases e : i = N
    · subst e
      rw [if_pos rfl]
    · rw [if_neg (by omega)]; exact h3 i (by omega)
theorem tz_trace0 (hWK : WK R) (ha : 0 ≤ a ∧ a < 64) (hr : ¬ m 76 a < 1000000) : ev 165 0 [(2, 70), (0, a), (9, 0), (9, 0), (9, 0)] [] R m = some ((9, 0), R, zup m 70 11 0) := by
  have RE := tz_reaches (m := zup m 70 11 0) hWK a
  rw [if_pos (show 0 ≤ a ∧ a < 88 by omega), zup_row (by decide), if_neg hr] at RE
  simp only [s165_0, s165_1, s165_2, s165_5, s165_6, s165_7, s165_10, s165_13, s165_14, s165_15, s165_16, s165_17, s165_18, s165_21, s165_22, s165_23, s165_26, s165_27, s165_29, s165_31, s165_34, s165_35, s165_38, s165_39, s165_42, s165_43, s165_44, s165_45, s165_46, s165_47, s165_48, s165_49, s165_52, s165_53, s165_54, s165_57, s165_58, s165_59, s165_62, s165_64, s165_65, s165_66, s165_68, s165_71, s165_73, s165_74, s165_77, s165_80, zps_0, zps_1, zps_2, zps_3, zps_9, Option.bind_some, Option.bind_none, Int.reduceEq, Int.reduceNe, Int.reduceLT, Int.reduceLE, Int.reduceNeg, Int.reduceAdd, Int.reduceSub, Int.reduceMul, reduceIte, if_true, if_false, true_and, and_true, false_and, and_false, or_true, true_or, or_false, false_or, not_true_eq_false, not_false_eq_true, ite_not, z_b0, z_b1, z_b01, rWK0 hWK, rWK1 hWK, rWK2 hWK, rWK3 hWK, rWK4 hWK, rWK5 hWK, rWK6 hWK, rWK7 hWK, rWK8 hWK, kWK0, kWK1, kWK2, kWK3, kWK4, kWK5, kWK6, kWK7, kWK8, kWK9, kWK10, kWK11, kWK12, kWK13, kWK14, kWK15, kWK16, RE, if_true, if_false]
theorem TQ_n (m : zM) (v : Int) : TQ m (zup m 70 11 v) := ⟨fun b b0 _ => zup_row b0, fun k k0 _ _ => zup_ne (Or.inr k0)⟩
end TRACE5
