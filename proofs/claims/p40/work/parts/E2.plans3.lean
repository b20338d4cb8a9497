/-! plans: the class chooses -/
def PCh (m x : zM) (t : Int) (d : Int) : Prop := (∀ b, b ≠ t + 1 → b ≠ t + 5 → b ≠ 87 → x b = m b) ∧ (∀ j, j ≠ 3 → x (t + 1) j = m (t + 1) j) ∧ (∀ j, j ≠ 1 → j ≠ 2 → j ≠ 3 → x 87 j = m 87 j) ∧ BV x (t + 1) ∧ TV x (t + 1) ∧ m (t + 1) 3 ≤ x (t + 1) 3 ∧ x (t + 1) 3 ≤ m (t + 1) 3 + d
def pSW (m : zM) (t : Int) (G U : Int → Int) : Int := zsow (m (t + 1) 2) (m (t + 1) 0) (m (t + 7) 0) (m t 3) G U (m (t + 8))
def pBm (m : zM) (t : Int) (n : Nat) (B : Int) (k : Nat) : Int × Int := pBt (pSW m t) (m 88) (m 89) (m 90) (m (t + 2)) (m (t + 4)) n B k
theorem pw_k : ((List.range 7).all fun k => z32 (fun x y => x <<< (y &&& 31)) 1 (k : Int) == ((2 ^ k : Nat) : Int)) = true := by decide +kernel
theorem pw_n {n : Nat} (h : n ≤ 6) : z32 (fun x y => x <<< (y &&& 31)) 1 (n : Int) = ((2 ^ n : Nat) : Int) := by
  have := List.all_eq_true.mp pw_k n (List.mem_range.2 (by omega))
  exact beq_iff_eq.mp this
theorem pw_b {n : Nat} (h : n ≤ 6) : 1 ≤ 2 ^ n ∧ 2 ^ n ≤ 64 := by
  have : n = 0 ∨ n = 1 ∨ n = 2 ∨ n = 3 ∨ n = 4 ∨ n = 5 ∨ n = 6 := by omega
  rcases this with e | e | e | e | e | e | e <;> subst e <;> decide
section PLANS3
variable {R m x y : zM} {t s p g d B : Int} {n : Nat}
theorem PCh_87 (ht : 2 ≤ t ∧ t + 27 < 58) (h : PCh m x t d) {j : Int} (hj : j = 1 ∨ j = 2 ∨ j = 3) (v : Int) : PCh m (zup x 87 j v) t d := by
  obtain ⟨h1, h2, h3, h4, h5, h6⟩ := h
  have g : ∀ b, b ≠ 87 → zup x 87 j v b = x b := fun b hb => zup_row hb
  obtain ⟨o1, o2⟩ := BT_fr (m := x) (m' := zup x 87 j v) (o := t + 1) (fun a a0 a1 => g a (by omega)) h4 h5
  refine ⟨fun b b1 b2 b3 => by rw [g b b3]; exact h1 b b1 b2 b3, fun i hi => by rw [g _ (by omega)]; exact h2 i hi, fun i i1 i2 i3 => by rw [zup_ne (Or.inr (by omega))]; exact h3 i i1 i2 i3, o1, o2, ?_⟩
  rw [g _ (by omega)]; exact h6
theorem PCh_PIv (ht : 2 ≤ t ∧ t + 27 < 58) (h : PCh m x t d) {d' : Int} (h2 : PIv x y t (x (t + 2)) (x (t + 4)) d') : PCh m y t (d + d') := by
  obtain ⟨a1, a2, a3, a4, a5, a6⟩ := h
  obtain ⟨b1, b2, b3, b4, b5, b6, b7⟩ := h2
  refine ⟨fun b q1 q2 q3 => ?_, fun j hj => by rw [b2 j hj]; exact a2 j hj, fun j j1 j2 j3 => by rw [b1 87 (by omega) (by omega) (by omega) (by omega)]; exact a3 j j1 j2 j3, b5, b6, by omega, by omega⟩
  by_cases e : b = t + 2
  · rw [e, b3]; exact a1 (t + 2) (by omega) (by omega) (by omega)
  · by_cases e2 : b = t + 4
    · rw [e2, b4]; exact a1 (t + 4) (by omega) (by omega) (by omega)
    · rw [b1 b q1 e e2 q2]; exact a1 b q1 q2 q3
theorem PCh_TG (ht : 2 ≤ t ∧ t + 27 < 58) (h : PCh m x t d) (hG : TG m t) : TG x t := by
  obtain ⟨a1, a2, a3, a4, a5, a6⟩ := h
  refine ⟨a4, NV_c (m := m) (a2 2 (by decide)) (a2 0 (by decide)) ?_ hG.2.1, a5, ?_⟩
  · rw [show t + 1 + 5 = t + 6 by omega]; exact a1 (t + 6) (by omega) (by omega) (by omega)
  · rw [a1 (t + 7) (by omega) (by omega) (by omega), a1 (t + 8) (by omega) (by omega) (by omega)]; exact hG.2.2.2
theorem PCh_PLs (ht : 2 ≤ t ∧ t + 27 < 58) {N : Int} (hc : PCh m x t d) (h : PLs m n N) : PLs x n N := by
  unfold PLs at *
  rw [hc.2.2.1 0 (by decide) (by decide) (by decide), hc.1 88 (by omega) (by omega) (by omega), hc.1 89 (by omega) (by omega) (by omega), hc.1 90 (by omega) (by omega) (by omega)]
  exact h
theorem PCh_le {d' : Int} (h : PCh m x t d) (hd : d ≤ d') : PCh m x t d' := ⟨h.1, h.2.1, h.2.2.1, h.2.2.2.1, h.2.2.2.2.1, h.2.2.2.2.2.1, by have := h.2.2.2.2.2.2; omega⟩
theorem PCh_self (hG : TG m t) : PCh m m t 0 := ⟨fun _ _ _ _ => rfl, fun _ _ => rfl, fun _ _ _ _ => rfl, hG.1, hG.2.2.1, by omega, by omega⟩
theorem tz_plchoose1 (hQK : QK R) (hB : TK R t) (hG : TG m t) (ht : 2 ≤ t ∧ t + 27 < 58) (h : PLs m n (m (t + 1) 2)) (hC : 0 ≤ m (t + 1) 3 ∧ m (t + 1) 3 < 1800000000) {k : Nat} (hk : k + 1 < 2 ^ n) (hx : PCh m x t (12 * k)) (h1 : x 87 1 = (pBm m t n B k).1) (h2 : x 87 2 = pCo (m 90) (pBm m t n B k).1 n) (h3 : x 87 3 = (pBm m t n B k).2) (l5 l6 : zV) : ∃ (y : zM) (l5' l6' : zV), ev 76 33 [(2, 87), (2, t), (0, B), (0, ((2 ^ n : Nat) : Int)), (0, ((k + 1 : Nat) : Int)), l5, l6] [] R x = ev 76 33 [(2, 87), (2, t), (0, B), (0, ((2 ^ n : Nat) : Int)), (0, ((k + 2 : Nat) : Int)), l5', l6'] [] R y ∧ PCh m y t (12 * (k + 1 : Nat)) ∧ y 87 1 = (pBm m t n B (k + 1)).1 ∧ y 87 2 = pCo (m 90) (pBm m t n B (k + 1)).1 n ∧ y 87 3 = (pBm m t n B (k + 1)).2 := by
  have h6 := h.2.1
  have hBB := TK_B hB
  obtain ⟨w1, w2⟩ := pw_b h6
  have hPx := PCh_PLs ht hx h
  have hGx := PCh_TG ht hx hG
  have xb : ∀ b, b ≠ t + 1 → b ≠ t + 5 → b ≠ 87 → x b = m b := hx.1
  have x88 : x 88 = m 88 := xb 88 (by omega) (by omega) (by omega)
  have x89 : x 89 = m 89 := xb 89 (by omega) (by omega) (by omega)
  have x90 : x 90 = m 90 := xb 90 (by omega) (by omega) (by omega)
  have xg : x (t + 2) = m (t + 2) := xb (t + 2) (by omega) (by omega) (by omega)
  have xu : x (t + 4) = m (t + 4) := xb (t + 4) (by omega) (by omega) (by omega)
  have xn : x (t + 1) 2 = m (t + 1) 2 := hx.2.1 2 (by decide)
  have c1 : ((k + 1 : Nat) : Int) < ((2 ^ n : Nat) : Int) := by omega
  have c2 : ¬ ((2 ^ n : Nat) : Int) ≤ ((k + 1 : Nat) : Int) := by omega
  have z1 : zw (((k + 1 : Nat) : Int) + 1) = ((k + 2 : Nat) : Int) := by rw [zw_i (by omega) (by omega)]; rfl
  have CO := tz_plcost (R := R) hQK hPx ((k + 1 : Nat) : Int)
  rw [x90] at CO
  have CA := tz_plcan (R := R) (t := t + 1) hQK hBB hGx.1 (by rw [xn]; exact hPx) ((k + 1 : Nat) : Int)
  rw [show t + 1 + 1 = t + 2 by omega, show t + 1 + 3 = t + 4 by omega, x88, xg, xu] at CA
  obtain ⟨s, hs⟩ : ∃ s, ((k + 1 : Nat) : Int) = s := ⟨_, rfl⟩
  have hs2 : ((k : Int) + 1) = s := by rw [← hs]; rfl
  rw [hs] at CO CA
  obtain ⟨co, hco⟩ : ∃ co, pCo (m 90) s n = co := ⟨_, rfl⟩
  rw [hco] at CO
  have bm : pBm m t n B (k + 1) = if (co ≤ B ∧ pCan (m 88) (m (t + 2)) (m (t + 4)) s n = true) ∧ ((pBm m t n B k).2 < pSW m t (pGU (m 88) (m 89) (m (t + 2)) (m (t + 4)) s n).1 (pGU (m 88) (m 89) (m (t + 2)) (m (t + 4)) s n).2 ∨ ((pBm m t n B k).2 = pSW m t (pGU (m 88) (m 89) (m (t + 2)) (m (t + 4)) s n).1 (pGU (m 88) (m 89) (m (t + 2)) (m (t + 4)) s n).2 ∧ co < pCo (m 90) (pBm m t n B k).1 n)) then (s, pSW m t (pGU (m 88) (m 89) (m (t + 2)) (m (t + 4)) s n).1 (pGU (m 88) (m 89) (m (t + 2)) (m (t + 4)) s n).2) else pBm m t n B k := by
    unfold pBm
    simp only [pBt]
    rw [hs2, hco]
  have H0 := fun (l5 l6 : zV) => s76_33 87 t B ((2 ^ n : Nat) : Int) s l5 l6 R x
  have skip : ¬ (co ≤ B ∧ pCan (m 88) (m (t + 2)) (m (t + 4)) s n = true) → pBm m t n B (k + 1) = pBm m t n B k := fun q => by rw [bm, if_neg (fun z => q z.1)]
  rw [hs] at c1 c2 z1 ⊢
  by_cases b1 : co ≤ B
  · have b1' : ¬ B < co := by omega
    by_cases b2 : pCan (m 88) (m (t + 2)) (m (t + 4)) s n = true
    · rw [if_pos b2] at CA
      obtain ⟨y, SU, hy⟩ := tz_plsum (R := R) (m := x) (s := s) hQK hB hGx ht (by rw [xn]; exact hPx) (by have := hx.2.2.2.2.2; omega) (by rw [x88, xg, xu]; exact b2)
      rw [x88, x89, xg, xu, xn, hx.2.1 0 (by decide), xb (t + 7) (by omega) (by omega) (by omega), xb (t + 8) (by omega) (by omega) (by omega), xb t (by omega) (by omega) (by omega)] at SU
      have eSW : ∀ G U, zsow (m (t + 1) 2) (m (t + 1) 0) (m (t + 7) 0) (m t 3) G U (m (t + 8)) = pSW m t G U := fun _ _ => rfl
      rw [eSW] at SU
      obtain ⟨v, hv⟩ : ∃ v, pSW m t (pGU (m 88) (m 89) (m (t + 2)) (m (t + 4)) s n).1 (pGU (m 88) (m 89) (m (t + 2)) (m (t + 4)) s n).2 = v := ⟨_, rfl⟩
      rw [hv] at SU bm
      have hcy := PCh_PIv ht hx hy
      have y87 : y 87 = x 87 := hy.1 87 (by omega) (by omega) (by omega) (by omega)
      have y1 : y 87 1 = (pBm m t n B k).1 := by rw [y87]; exact h1
      have y2 : y 87 2 = pCo (m 90) (pBm m t n B k).1 n := by rw [y87]; exact h2
      have y3 : y 87 3 = (pBm m t n B k).2 := by rw [y87]; exact h3
      by_cases b3 : (pBm m t n B k).2 < v ∨ ((pBm m t n B k).2 = v ∧ co < pCo (m 90) (pBm m t n B k).1 n)
      · have eb : pBm m t n B (k + 1) = (s, v) := by rw [bm, if_pos ⟨⟨b1, b2⟩, b3⟩]
        refine ⟨zup (zup (zup y 87 1 s) 87 2 co) 87 3 v, (0, co), (0, v), ?_, PCh_le (PCh_87 ht (PCh_87 ht (PCh_87 ht hcy (by omega) _) (by omega) _) (by omega) _) (by omega), ?_, ?_, ?_⟩
        · rw [s76_33]
          rcases b3 with q | ⟨q, q2⟩
          · have q' : ¬ v ≤ (pBm m t n B k).2 := by omega
            simp only [s76_0, s76_1, s76_2, s76_5, s76_6, s76_7, s76_10, s76_11, s76_12, s76_15, s76_18, s76_19, s76_20, s76_23, s76_25, s76_28, s76_29, s76_30, s76_31, s76_35, s76_36, s76_39, s76_40, s76_42, s76_45, s76_47, s76_49, s76_50, s76_53, s76_54, s76_56, s76_57, s76_60, s76_63, s76_66, s76_69, s76_70, s76_72, s76_73, s76_76, s76_78, s76_80, s76_81, s76_84, s76_87, s76_89, s76_90, s76_93, s76_96, s76_98, s76_99, s76_102, s76_105, s76_106, s76_108, s76_111, s76_112, s76_114, s76_117, s76_118, s76_120, s76_123, s76_126, s76_129, zps_0, zps_1, zps_2, zps_3, zps_9, Option.bind_some, Option.bind_none, Int.reduceEq, Int.reduceNe, Int.reduceLT, Int.reduceLE, Int.reduceNeg, Int.reduceAdd, Int.reduceSub, Int.reduceMul, reduceIte, if_true, if_false, true_and, and_true, false_and, and_false, or_true, true_or, or_false, false_or, not_true_eq_false, not_false_eq_true, ite_not, z_b0, z_b1, z_b01, rQK0 hQK, rQK1 hQK, rQK2 hQK, kQK0, kQK1, kQK2, kQK3, kQK4, kQK5, kQK6, hB.1, hB.2.1, c1, c2, CO, CA, b1, b1', SU, y3, q, q', z1, if_true, if_false]
          · have q1 : ¬ (pBm m t n B k).2 < v := by omega
            have q4 : v = (pBm m t n B k).2 := q.symm
            have q3 : ¬ pCo (m 90) (pBm m t n B k).1 n ≤ co := by omega
            have q5 : v ≤ (pBm m t n B k).2 := by omega
            rw [q] at y3
            simp only [s76_0, s76_1, s76_2, s76_5, s76_6, s76_7, s76_10, s76_11, s76_12, s76_15, s76_18, s76_19, s76_20, s76_23, s76_25, s76_28, s76_29, s76_30, s76_31, s76_35, s76_36, s76_39, s76_40, s76_42, s76_45, s76_47, s76_49, s76_50, s76_53, s76_54, s76_56, s76_57, s76_60, s76_63, s76_66, s76_69, s76_70, s76_72, s76_73, s76_76, s76_78, s76_80, s76_81, s76_84, s76_87, s76_89, s76_90, s76_93, s76_96, s76_98, s76_99, s76_102, s76_105, s76_106, s76_108, s76_111, s76_112, s76_114, s76_117, s76_118, s76_120, s76_123, s76_126, s76_129, zps_0, zps_1, zps_2, zps_3, zps_9, Option.bind_some, Option.bind_none, Int.reduceEq, Int.reduceNe, Int.reduceLT, Int.reduceLE, Int.reduceNeg, Int.reduceAdd, Int.reduceSub, Int.reduceMul, reduceIte, if_true, if_false, true_and, and_true, false_and, and_false, or_true, true_or, or_false, false_or, not_true_eq_false, not_false_eq_true, ite_not, z_b0, z_b1, z_b01, rQK0 hQK, rQK1 hQK, rQK2 hQK, kQK0, kQK1, kQK2, kQK3, kQK4, kQK5, kQK6, hB.1, hB.2.1, c1, c2, CO, CA, b1, b1', SU, y3, y2, Int.lt_irrefl, q2, q3, z1, if_true, if_false]
        · rw [eb, zup_ne (Or.inr (by decide)), zup_ne (Or.inr (by decide)), zup_at]
        · rw [eb, zup_ne (Or.inr (by decide)), zup_at, hco]
        · rw [eb, zup_at]
      · have eb : pBm m t n B (k + 1) = pBm m t n B k := by rw [bm, if_neg (fun z => b3 z.2)]
        refine ⟨y, (0, co), (0, v), ?_, PCh_le hcy (by omega), by rw [eb]; exact y1, by rw [eb]; exact y2, by rw [eb]; exact y3⟩
        rw [s76_33]
        have q1 : ¬ (pBm m t n B k).2 < v := fun z => b3 (Or.inl z)
        by_cases q2 : v = (pBm m t n B k).2
        · have q3 : ¬ co < pCo (m 90) (pBm m t n B k).1 n := fun z => b3 (Or.inr ⟨q2.symm, z⟩)
          have q4 : pCo (m 90) (pBm m t n B k).1 n ≤ co := by omega
          rw [← q2] at y3
          simp only [s76_0, s76_1, s76_2, s76_5, s76_6, s76_7, s76_10, s76_11, s76_12, s76_15, s76_18, s76_19, s76_20, s76_23, s76_25, s76_28, s76_29, s76_30, s76_31, s76_35, s76_36, s76_39, s76_40, s76_42, s76_45, s76_47, s76_49, s76_50, s76_53, s76_54, s76_56, s76_57, s76_60, s76_63, s76_66, s76_69, s76_70, s76_72, s76_73, s76_76, s76_78, s76_80, s76_81, s76_84, s76_87, s76_89, s76_90, s76_93, s76_96, s76_98, s76_99, s76_102, s76_105, s76_106, s76_108, s76_111, s76_112, s76_114, s76_117, s76_118, s76_120, s76_123, s76_126, s76_129, zps_0, zps_1, zps_2, zps_3, zps_9, Option.bind_some, Option.bind_none, Int.reduceEq, Int.reduceNe, Int.reduceLT, Int.reduceLE, Int.reduceNeg, Int.reduceAdd, Int.reduceSub, Int.reduceMul, reduceIte, if_true, if_false, true_and, and_true, false_and, and_false, or_true, true_or, or_false, false_or, not_true_eq_false, not_false_eq_true, ite_not, z_b0, z_b1, z_b01, rQK0 hQK, rQK1 hQK, rQK2 hQK, kQK0, kQK1, kQK2, kQK3, kQK4, kQK5, kQK6, hB.1, hB.2.1, c1, c2, CO, CA, b1, b1', SU, y3, y2, Int.lt_irrefl, q3, q4, z1, if_true, if_false]
        · simp only [s76_0, s76_1, s76_2, s76_5, s76_6, s76_7, s76_10, s76_11, s76_12, s76_15, s76_18, s76_19, s76_20, s76_23, s76_25, s76_28, s76_29, s76_30, s76_31, s76_35, s76_36, s76_39, s76_40, s76_42, s76_45, s76_47, s76_49, s76_50, s76_53, s76_54, s76_56, s76_57, s76_60, s76_63, s76_66, s76_69, s76_70, s76_72, s76_73, s76_76, s76_78, s76_80, s76_81, s76_84, s76_87, s76_89, s76_90, s76_93, s76_96, s76_98, s76_99, s76_102, s76_105, s76_106, s76_108, s76_111, s76_112, s76_114, s76_117, s76_118, s76_120, s76_123, s76_126, s76_129, zps_0, zps_1, zps_2, zps_3, zps_9, Option.bind_some, Option.bind_none, Int.reduceEq, Int.reduceNe, Int.reduceLT, Int.reduceLE, Int.reduceNeg, Int.reduceAdd, Int.reduceSub, Int.reduceMul, reduceIte, if_true, if_false, true_and, and_true, false_and, and_false, or_true, true_or, or_false, false_or, not_true_eq_false, not_false_eq_true, ite_not, z_b0, z_b1, z_b01, rQK0 hQK, rQK1 hQK, rQK2 hQK, kQK0, kQK1, kQK2, kQK3, kQK4, kQK5, kQK6, hB.1, hB.2.1, c1, c2, CO, CA, b1, b1', SU, y3, q1, q2, z1, if_true, if_false]
    · rw [if_neg b2] at CA
      have eb := skip (fun z => b2 z.2)
      refine ⟨x, (0, co), l6, ?_, PCh_le hx (by omega), by rw [eb]; exact h1, by rw [eb]; exact h2, by rw [eb]; exact h3⟩
      rw [s76_33]
      simp only [s76_0, s76_1, s76_2, s76_5, s76_6, s76_7, s76_10, s76_11, s76_12, s76_15, s76_18, s76_19, s76_20, s76_23, s76_25, s76_28, s76_29, s76_30, s76_31, s76_35, s76_36, s76_39, s76_40, s76_42, s76_45, s76_47, s76_49, s76_50, s76_53, s76_54, s76_56, s76_57, s76_60, s76_63, s76_66, s76_69, s76_70, s76_72, s76_73, s76_76, s76_78, s76_80, s76_81, s76_84, s76_87, s76_89, s76_90, s76_93, s76_96, s76_98, s76_99, s76_102, s76_105, s76_106, s76_108, s76_111, s76_112, s76_114, s76_117, s76_118, s76_120, s76_123, s76_126, s76_129, zps_0, zps_1, zps_2, zps_3, zps_9, Option.bind_some, Option.bind_none, Int.reduceEq, Int.reduceNe, Int.reduceLT, Int.reduceLE, Int.reduceNeg, Int.reduceAdd, Int.reduceSub, Int.reduceMul, reduceIte, if_true, if_false, true_and, and_true, false_and, and_false, or_true, true_or, or_false, false_or, not_true_eq_false, not_false_eq_true, ite_not, z_b0, z_b1, z_b01, rQK0 hQK, rQK1 hQK, rQK2 hQK, kQK0, kQK1, kQK2, kQK3, kQK4, kQK5, kQK6, hB.1, hB.2.1, c1, c2, CO, CA, b1, b1', z1, if_true, if_false]
  · have b1' : B < co := by omega
    have eb := skip (fun z => b1 z.1)
    refine ⟨x, (0, co), l6, ?_, PCh_le hx (by omega), by rw [eb]; exact h1, by rw [eb]; exact h2, by rw [eb]; exact h3⟩
    rw [s76_33]
    simp only [s76_0, s76_1, s76_2, s76_5, s76_6, s76_7, s76_10, s76_11, s76_12, s76_15, s76_18, s76_19, s76_20, s76_23, s76_25, s76_28, s76_29, s76_30, s76_31, s76_35, s76_36, s76_39, s76_40, s76_42, s76_45, s76_47, s76_49, s76_50, s76_53, s76_54, s76_56, s76_57, s76_60, s76_63, s76_66, s76_69, s76_70, s76_72, s76_73, s76_76, s76_78, s76_80, s76_81, s76_84, s76_87, s76_89, s76_90, s76_93, s76_96, s76_98, s76_99, s76_102, s76_105, s76_106, s76_108, s76_111, s76_112, s76_114, s76_117, s76_118, s76_120, s76_123, s76_126, s76_129, zps_0, zps_1, zps_2, zps_3, zps_9, Option.bind_some, Option.bind_none, Int.reduceEq, Int.reduceNe, Int.reduceLT, Int.reduceLE, Int.reduceNeg, Int.reduceAdd, Int.reduceSub, Int.reduceMul, reduceIte, if_true, if_false, true_and, and_true, false_and, and_false, or_true, true_or, or_false, false_or, not_true_eq_false, not_false_eq_true, ite_not, z_b0, z_b1, z_b01, rQK0 hQK, rQK1 hQK, rQK2 hQK, kQK0, kQK1, kQK2, kQK3, kQK4, kQK5, kQK6, c1, c2, CO, b1', z1, if_true, if_false]
theorem tz_plchoose (hQK : QK R) (hB : TK R t) (hG : TG m t) (ht : 2 ≤ t ∧ t + 27 < 58) (h : PLs m n (m (t + 1) 2)) (hC : 0 ≤ m (t + 1) 3 ∧ m (t + 1) 3 < 1800000000) (B : Int) : ∃ x : zM, ev 76 0 [(2, 87), (2, t), (0, B), (9, 0), (9, 0), (9, 0), (9, 0)] [] R m = some ((9, 0), R, x) ∧ PCh m x t 800 ∧ x 87 1 = (pBm m t n B (2 ^ n - 1)).1 ∧ x 87 2 = pCo (m 90) (pBm m t n B (2 ^ n - 1)).1 n ∧ x 87 3 = (pBm m t n B (2 ^ n - 1)).2 := by
  have h6 := h.2.1
  obtain ⟨w1, w2⟩ := pw_b h6
  have hc2 := PCh_87 ht (PCh_87 ht (PCh_self hG) (j := 1) (by omega) 0) (j := 2) (by omega) 0
  have SO := tz_tsow (R := R) hB (PCh_TG ht hc2 hG)
  obtain ⟨x2, hx2⟩ : ∃ x2, zup (zup m 87 1 0) 87 2 0 = x2 := ⟨_, rfl⟩
  rw [hx2] at SO hc2
  rw [hc2.2.1 2 (by decide), hc2.2.1 0 (by decide), hc2.1 (t + 2) (by omega) (by omega) (by omega), hc2.1 (t + 4) (by omega) (by omega) (by omega), hc2.1 (t + 7) (by omega) (by omega) (by omega), hc2.1 (t + 8) (by omega) (by omega) (by omega), hc2.1 t (by omega) (by omega) (by omega)] at SO
  obtain ⟨v, hv⟩ : ∃ v, zsow (m (t + 1) 2) (m (t + 1) 0) (m (t + 7) 0) (m t 3) (m (t + 2)) (m (t + 4)) (m (t + 8)) = v := ⟨_, rfl⟩
  rw [hv] at SO
  have hc3 := PCh_87 ht hc2 (j := 3) (by omega) v
  have b0 : pBm m t n B 0 = (0, v) := by unfold pBm; simp only [pBt]; rw [← hv]; rfl
  have x0 : zup x2 87 3 v 87 0 = n := by rw [hc3.2.2.1 0 (by decide) (by decide) (by decide)]; exact h.1
  have mi : (if (6 : Int) < n then 6 else (n : Int)) = n := by rw [if_neg (by omega)]
  have mi2 : (if (n : Int) < 6 then (n : Int) else 6) = n := by split <;> omega
  have L0 : ev 76 0 [(2, 87), (2, t), (0, B), (9, 0), (9, 0), (9, 0), (9, 0)] [] R m = ev 76 33 [(2, 87), (2, t), (0, B), (0, ((2 ^ n : Nat) : Int)), (0, ((0 + 1 : Nat) : Int)), (9, 0), (9, 0)] [] R (zup x2 87 3 v) := by
    simp only [s76_0, s76_1, s76_2, s76_5, s76_6, s76_7, s76_10, s76_11, s76_12, s76_15, s76_18, s76_19, s76_20, s76_23, s76_25, s76_28, s76_29, s76_30, s76_31, s76_35, s76_36, s76_39, s76_40, s76_42, s76_45, s76_47, s76_49, s76_50, s76_53, s76_54, s76_56, s76_57, s76_60, s76_63, s76_66, s76_69, s76_70, s76_72, s76_73, s76_76, s76_78, s76_80, s76_81, s76_84, s76_87, s76_89, s76_90, s76_93, s76_96, s76_98, s76_99, s76_102, s76_105, s76_106, s76_108, s76_111, s76_112, s76_114, s76_117, s76_118, s76_120, s76_123, s76_126, s76_129, zps_0, zps_1, zps_2, zps_3, zps_9, Option.bind_some, Option.bind_none, Int.reduceEq, Int.reduceNe, Int.reduceLT, Int.reduceLE, Int.reduceNeg, Int.reduceAdd, Int.reduceSub, Int.reduceMul, reduceIte, if_true, if_false, true_and, and_true, false_and, and_false, or_true, true_or, or_false, false_or, not_true_eq_false, not_false_eq_true, ite_not, z_b0, z_b1, z_b01, rQK0 hQK, rQK1 hQK, rQK2 hQK, kQK0, kQK1, kQK2, kQK3, kQK4, kQK5, kQK6, hB.1, hB.2.1, hx2, SO, x0, mi, mi2, pw_n h6]
    rfl
  have key : ∀ k : Nat, k + 1 ≤ 2 ^ n → ∃ (y : zM) (l5 l6 : zV), ev 76 33 [(2, 87), (2, t), (0, B), (0, ((2 ^ n : Nat) : Int)), (0, ((0 + 1 : Nat) : Int)), (9, 0), (9, 0)] [] R (zup x2 87 3 v) = ev 76 33 [(2, 87), (2, t), (0, B), (0, ((2 ^ n : Nat) : Int)), (0, ((k + 1 : Nat) : Int)), l5, l6] [] R y ∧ PCh m y t (12 * (k : Int)) ∧ y 87 1 = (pBm m t n B k).1 ∧ y 87 2 = pCo (m 90) (pBm m t n B k).1 n ∧ y 87 3 = (pBm m t n B k).2 := by
    intro k
    induction k with
    | zero =>
      intro _
      refine ⟨_, (9, 0), (9, 0), rfl, PCh_le hc3 (by omega), ?_, ?_, ?_⟩
      · rw [b0, zup_ne (Or.inr (by decide)), ← hx2, zup_ne (Or.inr (by decide)), zup_at]
      · rw [b0, zup_ne (Or.inr (by decide)), ← hx2, zup_at]
        have : ∀ j : Nat, pCo (m 90) 0 j = 0 := by
          intro j
          induction j with
          | zero => rfl
          | succ j ih => simp only [pCo]; rw [ih, ybt_0, if_neg (by decide)]; rfl
        rw [this]
      · rw [b0, zup_at]
    | succ k ih =>
      intro hk
      obtain ⟨y, l5, l6, e1, a1, a2, a3, a4⟩ := ih (by omega)
      obtain ⟨y2, l5', l6', e2, b1, b2, b3, b4⟩ := tz_plchoose1 (R := R) (B := B) hQK hB hG ht h hC (k := k) (by omega) a1 a2 a3 a4 l5 l6
      exact ⟨y2, l5', l6', e1.trans e2, b1, b2, b3, b4⟩
  obtain ⟨y, l5, l6, e1, a1, a2, a3, a4⟩ := key (2 ^ n - 1) (by omega)
  refine ⟨y, ?_, PCh_le a1 (by omega), a2, a3, a4⟩
  rw [L0, e1, show 2 ^ n - 1 + 1 = 2 ^ n by omega, s76_33]
  simp only [s76_0, s76_1, s76_2, s76_5, s76_6, s76_7, s76_10, s76_11, s76_12, s76_15, s76_18, s76_19, s76_20, s76_23, s76_25, s76_28, s76_29, s76_30, s76_31, s76_35, s76_36, s76_39, s76_40, s76_42, s76_45, s76_47, s76_49, s76_50, s76_53, s76_54, s76_56, s76_57, s76_60, s76_63, s76_66, s76_69, s76_70, s76_72, s76_73, s76_76, s76_78, s76_80, s76_81, s76_84, s76_87, s76_89, s76_90, s76_93, s76_96, s76_98, s76_99, s76_102, s76_105, s76_106, s76_108, s76_111, s76_112, s76_114, s76_117, s76_118, s76_120, s76_123, s76_126, s76_129, zps_0, zps_1, zps_2, zps_3, zps_9, Option.bind_some, Option.bind_none, Int.reduceEq, Int.reduceNe, Int.reduceLT, Int.reduceLE, Int.reduceNeg, Int.reduceAdd, Int.reduceSub, Int.reduceMul, reduceIte, if_true, if_false, true_and, and_true, false_and, and_false, or_true, true_or, or_false, false_or, not_true_eq_false, not_false_eq_true, ite_not, z_b0, z_b1, z_b01, Int.le_refl, if_true]
end PLANS3
