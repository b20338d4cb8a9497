/-! the class settles trips: rounds -/
def TDr (x w : zM) (n : Nat) (r : Int × (Bool × zTS)) : Prop := x 79 2 = r.1 ∧ (x 79 3 = if r.2.1 = true then 1 else 0) ∧ ∀ u : Int, 0 ≤ u → u < n → TRw x r.2.2 u ∧ (x 82 u = if 0 < r.2.2.1 u then 0 else 1) ∧ x 83 u = pD (wX w (fun _ => 0)) (w 140 u) (w 139 u) ∧ TOt w r.2.2 u ∧ (r.2.1 = false → 0 < r.2.2.1 u → x 84 u = tTk (wX w (tCw r.2.2 n u)) r.2.2 u)
section SETTLE5
variable {R m w x y z : zM} {T T' : zTS} {t : Int} {n : Nat} {c : Int → Int} {D : Int → Int}
theorem tRd_pre (k : Nat) (h : (tRd w n T k).2 = false) : ∀ j : Nat, j ≤ k → (tRd w n T j).2 = false := by
  induction k with
  | zero => intro j hj; rw [show j = 0 by omega]; exact h
  | succ k ih =>
    have h2 : (tRd w n T k).2 = false := by
      simp only [tRd, tS1] at h
      split at h
      · cases h
      · exact h
    intro j hj
    by_cases e : j = k + 1
    · rw [e]; exact h
    · exact ih h2 j (by omega)
theorem TSt_79 (h : TSt x w n T) {k : Int} (hk : k ≠ 1) (v : Int) : TSt (zup x 79 k v) w n T := by
  obtain ⟨a, b, d, e, f⟩ := h
  have g : ∀ u, u ≠ 79 → zup x 79 k v u = x u := fun u hu => zup_row hu
  have L : LDok x → LDok (zup x 79 k v) := by
    intro hL
    unfold LDok LDr cGo cBs cGr cQ at *
    rw [g 3 (by decide), g 4 (by decide), g 5 (by decide), g 73 (by decide), g 74 (by decide)]
    exact hL
  refine ⟨fun q => L (a (by rw [g 70 (by decide), g 3 (by decide)] at q; exact q)), fun q => L (b q), CWd_c (g 3 (by decide)) (g 4 (by decide)) (g 75 (by decide)) d, by rw [zup_ne (Or.inr (Ne.symm hk))]; exact e, fun u u0 u1 => ?_⟩
  obtain ⟨t1, t2, t3, t4⟩ := f u u0 u1
  rw [g 82 (by decide), g 83 (by decide)]
  exact ⟨TRw_c (g 85 (by decide)) (g 86 (by decide)) t1, t2, t3, t4⟩
theorem QS_79 (h : QS m x) {k : Int} (hk : k = 2 ∨ k = 3 ∨ k = 4 ∨ k = 5) (v : Int) : QS m (zup x 79 k v) := by
  refine ⟨fun b b1 b2 b3 b4 b5 b6 b7 b8 b9 b10 b11 b12 b13 => by rw [zup_row b8]; exact h.1 b b1 b2 b3 b4 b5 b6 b7 b8 b9 b10 b11 b12 b13, fun k k1 k2 k3 k4 k5 => by rw [zup_row (by decide)]; exact h.2.1 k k1 k2 k3 k4 k5, fun j j1 j2 j3 j4 => ?_, by rw [zup_row (by decide)]; exact h.2.2.2⟩
  rw [zup_ne (Or.inr (by omega))]
  exact h.2.2.1 j j1 j2 j3 j4
theorem tz_goRound (hPK : PK R) (hWK : WK R) (hB : BK R 3) (hW : WRs m w) (hP : TPs m w n) (hq : QS m x) (hS : TSt x w n T) : ∃ x' : zM, ev 141 0 [(2, 79), (9, 0), (9, 0)] [] R x = some ((0, if (tRd w n T n).2 = true then 1 else 0), R, x') ∧ QS m x' ∧ TSt x' w n (tRd w n T n).1 ∧ x' 79 = x 79 ∧ ((tRd w n T n).2 = false → ∀ u : Int, 0 ≤ u → u < n → 0 < T.1 u → x' 84 u = tTk (wX w (tCw T n u)) T u) := by
  have L0 : ev 141 0 [(2, 79), (9, 0), (9, 0)] [] R x = ev 141 4 [(2, 79), (0, 0), (0, 0)] [] R x := by
    simp only [s141_0, s141_1, s141_2, s141_3, s141_5, s141_6, s141_9, s141_12, s141_13, s141_15, s141_18, s141_19, s141_20, s141_23, s141_26, s141_29, s141_30, s141_31, s141_32, s141_35, s141_36, s141_39, s141_40, s141_43, s141_44, s141_45, s141_46, s141_49, s141_50, s141_53, s141_54, s141_55, s141_56, s141_59, s141_60, s141_61, s141_64, s141_65, s141_68, s141_69, s141_70, s141_73, s141_74, s141_77, s141_78, s141_79, s141_82, s141_83, s141_86, s141_87, s141_90, s141_91, s141_92, s141_95, s141_96, s141_97, s141_100, s141_101, s141_102, s141_103, s141_104, s141_105, s141_108, s141_111, s141_114, s141_115, zps_0, zps_1, zps_2, zps_3, zps_9, Option.bind_some, Option.bind_none, Int.reduceEq, Int.reduceNe, Int.reduceLT, Int.reduceLE, Int.reduceNeg, Int.reduceAdd, Int.reduceSub, Int.reduceMul, reduceIte, if_true, if_false, true_and, and_true, false_and, and_false, or_true, true_or, or_false, false_or, not_true_eq_false, not_false_eq_true, ite_not, z_b0, z_b1, z_b01, rPK0 hPK, rPK1 hPK, rPK2 hPK, rPK3 hPK, rPK4 hPK, rPK5 hPK, rPK6 hPK, rPK7 hPK, kPK0, kPK1, kPK2, kPK3, kPK4, kPK5, kPK6, kPK7, kPK8, kPK9, kPK10, kPK11, kPK12, kPK13, kPK14]
  rw [L0]
  have key : ∀ k : Nat, k ≤ n → ∃ x' : zM, ev 141 4 [(2, 79), (0, 0), (0, 0)] [] R x = ev 141 4 [(2, 79), (0, if (tRd w n T k).2 = true then 1 else 0), (0, (k : Int))] [] R x' ∧ QS m x' ∧ TSt x' w n (tRd w n T k).1 ∧ x' 79 = x 79 ∧ ∀ u : Nat, u < k → 0 < (tRd w n T u).1.1 u → x' 84 u = tTk (wX w (tCw (tRd w n T u).1 n u)) (tRd w n T u).1 u := by
    intro k
    induction k with
    | zero => intro _; exact ⟨x, rfl, hq, hS, rfl, fun u hu => by omega⟩
    | succ k ih =>
      intro hk
      obtain ⟨x1, e1, a1, a2, a3, a4⟩ := ih (by omega)
      obtain ⟨x2, e2, b1, b2, b3, b4, b5⟩ := tz_go1 (R := R) hPK hWK hB hW hP a1 a2 (k := k) (by omega)
      refine ⟨x2, e1.trans e2, b1, b2, b3.trans a3, fun u hu hp => ?_⟩
      by_cases e : u = k
      · subst e; exact b5 hp
      · rw [b4 u (by omega)]; exact a4 u (by omega) hp
  obtain ⟨x1, e1, a1, a2, a3, a4⟩ := key n (Nat.le_refl _)
  have h1 := a2.2.2.2.1
  refine ⟨x1, ?_, a1, a2, a3, fun hf u u0 u1 hp => ?_⟩
  · rw [e1, s141_4]
    simp only [s141_0, s141_1, s141_2, s141_3, s141_5, s141_6, s141_9, s141_12, s141_13, s141_15, s141_18, s141_19, s141_20, s141_23, s141_26, s141_29, s141_30, s141_31, s141_32, s141_35, s141_36, s141_39, s141_40, s141_43, s141_44, s141_45, s141_46, s141_49, s141_50, s141_53, s141_54, s141_55, s141_56, s141_59, s141_60, s141_61, s141_64, s141_65, s141_68, s141_69, s141_70, s141_73, s141_74, s141_77, s141_78, s141_79, s141_82, s141_83, s141_86, s141_87, s141_90, s141_91, s141_92, s141_95, s141_96, s141_97, s141_100, s141_101, s141_102, s141_103, s141_104, s141_105, s141_108, s141_111, s141_114, s141_115, zps_0, zps_1, zps_2, zps_3, zps_9, Option.bind_some, Option.bind_none, Int.reduceEq, Int.reduceNe, Int.reduceLT, Int.reduceLE, Int.reduceNeg, Int.reduceAdd, Int.reduceSub, Int.reduceMul, reduceIte, if_true, if_false, true_and, and_true, false_and, and_false, or_true, true_or, or_false, false_or, not_true_eq_false, not_false_eq_true, ite_not, z_b0, z_b1, z_b01, rPK0 hPK, rPK1 hPK, rPK2 hPK, rPK3 hPK, rPK4 hPK, rPK5 hPK, rPK6 hPK, rPK7 hPK, kPK0, kPK1, kPK2, kPK3, kPK4, kPK5, kPK6, kPK7, kPK8, kPK9, kPK10, kPK11, kPK12, kPK13, kPK14, h1, Int.le_refl, if_true, z_em]
  · have pr := tRd_pre n hf u.toNat (by omega)
    have e := (tRd_id u.toNat pr).1
    have := a4 u.toNat (by omega)
    rw [e, show ((u.toNat : Nat) : Int) = u by omega] at this
    exact this hp
theorem tz_strounds (hPK : PK R) (hWK : WK R) (hB : BK R 3) (hW : WRs m w) (hP : TPs m w n) (k : Nat) : ∀ (x : zM) (T : zTS), k ≤ 40 → QS m x → TSt x w n T → x 79 2 = 40 - (k : Int) → ∃ x' : zM, ev 134 56 [(2, 79), (0, 1)] [] R x = some ((9, 0), R, x') ∧ QS m x' ∧ TDr x' w n (tRs w n k (40 - (k : Int)) T) ∧ (x' 70 7 = x' 3 3 → LDok x') ∧ (x' 79 4 = x 79 4 ∧ x' 79 5 = x 79 5) ∧ ∀ i, 0 ≤ i → i < 256 → 0 ≤ x' 75 i ∧ x' 75 i ≤ 1000 := by
  have fin : ∀ (x : zM) (T : zTS) (b : Bool), QS m x → TSt x w n T → (b = false → ∀ u : Int, 0 ≤ u → u < n → 0 < T.1 u → x 84 u = tTk (wX w (tCw T n u)) T u) → QS m (zup x 79 3 (if b = true then 1 else 0)) ∧ TDr (zup x 79 3 (if b = true then 1 else 0)) w n (x 79 2, b, T) ∧ (zup x 79 3 (if b = true then 1 else 0) 70 7 = zup x 79 3 (if b = true then 1 else 0) 3 3 → LDok (zup x 79 3 (if b = true then 1 else 0))) ∧ (zup x 79 3 (if b = true then 1 else 0) 79 4 = x 79 4 ∧ zup x 79 3 (if b = true then 1 else 0) 79 5 = x 79 5) ∧ ∀ i, 0 ≤ i → i < 256 → 0 ≤ zup x 79 3 (if b = true then 1 else 0) 75 i ∧ zup x 79 3 (if b = true then 1 else 0) 75 i ≤ 1000 := by
    intro x T b hq hS hb
    have S2 := TSt_79 hS (k := 3) (by decide) (if b = true then 1 else 0)
    have q2 := QS_79 hq (k := 3) (by omega) (if b = true then 1 else 0)
    refine ⟨q2, ⟨zup_ne (Or.inr (by decide)), zup_at _ _ _ _, fun u u0 u1 => ?_⟩, S2.1, ⟨zup_ne (Or.inr (by decide)), zup_ne (Or.inr (by decide))⟩, ?_⟩
    · obtain ⟨a, b1, d, e⟩ := S2.2.2.2.2 u u0 u1
      refine ⟨a, b1, d, e, fun h hp => ?_⟩
      rw [zup_row (by decide)]
      exact hb h u u0 u1 hp
    · exact (CRg_of (QS_WRs q2 hW).1.1.1 S2.2.2.1 (fun e _ _ => tCw_b hP.2.1 (fun t t0 t1 => (hS.2.2.2.2 t t0 t1).2.2.2) (-1) e) w).2.2
  induction k with
  | zero =>
    intro x T _ hq hS h2
    have h2' : x 79 2 = 40 := by rw [h2]; rfl
    obtain ⟨f1, f2, f3, f4, f5⟩ := fin x T true hq hS (fun h => by cases h)
    rw [if_pos rfl] at f1 f2 f3 f4 f5
    refine ⟨_, ?_, f1, ?_, f3, f4, f5⟩
    · rw [s134_56]
      simp only [s134_0, s134_1, s134_4, s134_5, s134_8, s134_11, s134_12, s134_15, s134_16, s134_19, s134_22, s134_25, s134_26, s134_27, s134_28, s134_31, s134_34, s134_35, s134_36, s134_39, s134_42, s134_45, s134_46, s134_49, s134_50, s134_51, s134_52, s134_53, s134_57, s134_60, s134_61, s134_64, s134_66, s134_69, s134_70, s134_73, s134_74, s134_75, s134_76, s134_79, s134_80, s134_81, s134_84, s134_87, s134_88, s134_89, s134_92, zps_0, zps_1, zps_2, zps_3, zps_9, Option.bind_some, Option.bind_none, Int.reduceEq, Int.reduceNe, Int.reduceLT, Int.reduceLE, Int.reduceNeg, Int.reduceAdd, Int.reduceSub, Int.reduceMul, reduceIte, if_true, if_false, true_and, and_true, false_and, and_false, or_true, true_or, or_false, false_or, not_true_eq_false, not_false_eq_true, ite_not, z_b0, z_b1, z_b01, rPK0 hPK, rPK1 hPK, rPK2 hPK, rPK3 hPK, rPK4 hPK, rPK5 hPK, rPK6 hPK, rPK7 hPK, kPK0, kPK1, kPK2, kPK3, kPK4, kPK5, kPK6, kPK7, kPK8, kPK9, kPK10, kPK11, kPK12, kPK13, kPK14, h2', if_true, if_false]
    · rw [h2] at f2; exact f2
  | succ k ih =>
    intro x T hk hq hS h2
    obtain ⟨x1, e1, a1, a2, a3, a4⟩ := tz_goRound (R := R) hPK hWK hB hW hP hq hS
    have r1 : x1 79 2 = 40 - ((k + 1 : Nat) : Int) := by rw [a3]; exact h2
    have c1 : ¬ (40 : Int) ≤ 40 - ((k + 1 : Nat) : Int) := by omega
    have c2 : 40 - ((k + 1 : Nat) : Int) < 40 := by omega
    have z1 : zw (40 - ((k + 1 : Nat) : Int) + 1) = 40 - (k : Int) := by rw [zw_i (by omega) (by omega)]; omega
    have L : ev 134 56 [(2, 79), (0, 1)] [] R x = ev 134 56 [(2, 79), (0, if (tRd w n T n).2 = true then 1 else 0)] [] R (zup x1 79 2 (40 - (k : Int))) := by
      rw [s134_56]
      simp only [s134_0, s134_1, s134_4, s134_5, s134_8, s134_11, s134_12, s134_15, s134_16, s134_19, s134_22, s134_25, s134_26, s134_27, s134_28, s134_31, s134_34, s134_35, s134_36, s134_39, s134_42, s134_45, s134_46, s134_49, s134_50, s134_51, s134_52, s134_53, s134_57, s134_60, s134_61, s134_64, s134_66, s134_69, s134_70, s134_73, s134_74, s134_75, s134_76, s134_79, s134_80, s134_81, s134_84, s134_87, s134_88, s134_89, s134_92, zps_0, zps_1, zps_2, zps_3, zps_9, Option.bind_some, Option.bind_none, Int.reduceEq, Int.reduceNe, Int.reduceLT, Int.reduceLE, Int.reduceNeg, Int.reduceAdd, Int.reduceSub, Int.reduceMul, reduceIte, if_true, if_false, true_and, and_true, false_and, and_false, or_true, true_or, or_false, false_or, not_true_eq_false, not_false_eq_true, ite_not, z_b0, z_b1, z_b01, rPK0 hPK, rPK1 hPK, rPK2 hPK, rPK3 hPK, rPK4 hPK, rPK5 hPK, rPK6 hPK, rPK7 hPK, kPK0, kPK1, kPK2, kPK3, kPK4, kPK5, kPK6, kPK7, kPK8, kPK9, kPK10, kPK11, kPK12, kPK13, kPK14, h2, r1, c1, c2, e1, z1, if_true, if_false]
    have S2 := TSt_79 a2 (k := 2) (by decide) (40 - (k : Int))
    have q2 := QS_79 a1 (k := 2) (by omega) (40 - (k : Int))
    have v2 : zup x1 79 2 (40 - (k : Int)) 79 2 = 40 - (k : Int) := zup_at _ _ _ _
    rw [L]
    have er : 40 - ((k + 1 : Nat) : Int) + 1 = 40 - (k : Int) := by omega
    have v45 : zup x1 79 2 (40 - (k : Int)) 79 4 = x 79 4 ∧ zup x1 79 2 (40 - (k : Int)) 79 5 = x 79 5 := by
      rw [zup_ne (Or.inr (by decide)), zup_ne (Or.inr (by decide)), a3]; exact ⟨rfl, rfl⟩
    cases hb : (tRd w n T n).2 with
    | true =>
      obtain ⟨x3, e3, b1, b2, b3, b4, b5⟩ := ih (zup x1 79 2 (40 - (k : Int))) (tRd w n T n).1 (by omega) q2 S2 v2
      refine ⟨x3, ?_, b1, ?_, b3, by rw [b4.1, b4.2]; exact v45, b5⟩
      · rw [if_pos rfl]; exact e3
      · simp only [tRs]
        rw [if_pos hb, er]; exact b2
    | false =>
      obtain ⟨f1, f2, f3, f4, f5⟩ := fin (zup x1 79 2 (40 - (k : Int))) (tRd w n T n).1 false q2 S2 (fun _ u u0 u1 hp => by
        have id := (tRd_id n hb).1
        rw [id] at hp ⊢
        rw [zup_row (by decide)]
        exact a4 hb u u0 u1 hp)
      rw [if_neg (by decide)] at f1 f2 f3 f4 f5
      refine ⟨_, ?_, f1, ?_, f3, by rw [f4.1, f4.2]; exact v45, f5⟩
      · rw [if_neg (by decide), s134_56]
        simp only [s134_0, s134_1, s134_4, s134_5, s134_8, s134_11, s134_12, s134_15, s134_16, s134_19, s134_22, s134_25, s134_26, s134_27, s134_28, s134_31, s134_34, s134_35, s134_36, s134_39, s134_42, s134_45, s134_46, s134_49, s134_50, s134_51, s134_52, s134_53, s134_57, s134_60, s134_61, s134_64, s134_66, s134_69, s134_70, s134_73, s134_74, s134_75, s134_76, s134_79, s134_80, s134_81, s134_84, s134_87, s134_88, s134_89, s134_92, zps_0, zps_1, zps_2, zps_3, zps_9, Option.bind_some, Option.bind_none, Int.reduceEq, Int.reduceNe, Int.reduceLT, Int.reduceLE, Int.reduceNeg, Int.reduceAdd, Int.reduceSub, Int.reduceMul, reduceIte, if_true, if_false, true_and, and_true, false_and, and_false, or_true, true_or, or_false, false_or, not_true_eq_false, not_false_eq_true, ite_not, z_b0, z_b1, z_b01, rPK0 hPK, rPK1 hPK, rPK2 hPK, rPK3 hPK, rPK4 hPK, rPK5 hPK, rPK6 hPK, rPK7 hPK, kPK0, kPK1, kPK2, kPK3, kPK4, kPK5, kPK6, kPK7, kPK8, kPK9, kPK10, kPK11, kPK12, kPK13, kPK14, if_true, if_false]
      · simp only [tRs]
        rw [if_neg (by rw [hb]; decide), er]
        rw [v2] at f2
        exact f2
theorem tz_changes (hWK : WK R) (hB : BK R 3) : ev 173 0 [(2, 70)] [] R x = some ((0, x 3 3), R, x) := by
  have b0 := hB.1
  simp only [s173_0, s173_1, s173_4, s173_7, zps_0, zps_1, zps_2, zps_3, zps_9, Option.bind_some, Option.bind_none, Int.reduceEq, Int.reduceNe, Int.reduceLT, Int.reduceLE, Int.reduceNeg, Int.reduceAdd, Int.reduceSub, Int.reduceMul, reduceIte, if_true, if_false, true_and, and_true, false_and, and_false, or_true, true_or, or_false, false_or, not_true_eq_false, not_false_eq_true, ite_not, z_b0, z_b1, z_b01, rWK0 hWK, rWK1 hWK, rWK2 hWK, rWK3 hWK, rWK4 hWK, rWK5 hWK, rWK6 hWK, rWK7 hWK, rWK8 hWK, kWK0, kWK1, kWK2, kWK3, kWK4, kWK5, kWK6, kWK7, kWK8, kWK9, kWK10, kWK11, kWK12, kWK13, kWK14, kWK15, kWK16, b0]
theorem tz_psettle (hPK : PK R) (hWK : WK R) (hB : BK R 3) (hW : WRs m w) (hP : TPs m w n) (hL : m 70 7 = m 3 3 → LDok m) (hc : ∀ i, 0 ≤ i → i < 256 → 0 ≤ m 75 i ∧ m 75 i ≤ 1000) (hd : m 79 4 = n → m 79 5 = m 3 3 → TDr m w n (tRs w n 40 0 (tIn w n))) : ∃ x : zM, ev 134 0 [(2, 79), (9, 0)] [] R m = some ((9, 0), R, x) ∧ QS m x ∧ TDr x w n (tRs w n 40 0 (tIn w n)) ∧ (x 79 4 = n ∧ x 79 5 = m 3 3) ∧ (x 70 7 = x 3 3 → LDok x) ∧ ∀ i, 0 ≤ i → i < 256 → 0 ≤ x 75 i ∧ x 75 i ≤ 1000 := by
  have h1 := hP.1
  have CH := tz_changes (x := m) hWK hB
  by_cases c : m 79 4 = n ∧ m 79 5 = m 3 3
  · refine ⟨m, ?_, QS_self m, hd c.1 c.2, c, hL, hc⟩
    simp only [s134_0, s134_1, s134_4, s134_5, s134_8, s134_11, s134_12, s134_15, s134_16, s134_19, s134_22, s134_25, s134_26, s134_27, s134_28, s134_31, s134_34, s134_35, s134_36, s134_39, s134_42, s134_45, s134_46, s134_49, s134_50, s134_51, s134_52, s134_53, s134_57, s134_60, s134_61, s134_64, s134_66, s134_69, s134_70, s134_73, s134_74, s134_75, s134_76, s134_79, s134_80, s134_81, s134_84, s134_87, s134_88, s134_89, s134_92, zps_0, zps_1, zps_2, zps_3, zps_9, Option.bind_some, Option.bind_none, Int.reduceEq, Int.reduceNe, Int.reduceLT, Int.reduceLE, Int.reduceNeg, Int.reduceAdd, Int.reduceSub, Int.reduceMul, reduceIte, if_true, if_false, true_and, and_true, false_and, and_false, or_true, true_or, or_false, false_or, not_true_eq_false, not_false_eq_true, ite_not, z_b0, z_b1, z_b01, rPK0 hPK, rPK1 hPK, rPK2 hPK, rPK3 hPK, rPK4 hPK, rPK5 hPK, rPK6 hPK, rPK7 hPK, kPK0, kPK1, kPK2, kPK3, kPK4, kPK5, kPK6, kPK7, kPK8, kPK9, kPK10, kPK11, kPK12, kPK13, kPK14, rWK0 hWK, rWK1 hWK, rWK2 hWK, rWK3 hWK, rWK4 hWK, rWK5 hWK, rWK6 hWK, rWK7 hWK, rWK8 hWK, kWK0, kWK1, kWK2, kWK3, kWK4, kWK5, kWK6, kWK7, kWK8, kWK9, kWK10, kWK11, kWK12, kWK13, kWK14, kWK15, kWK16, h1, CH, c.1, c.2, if_true, if_false]
  · obtain ⟨m1, hm1⟩ : ∃ m1, zup m 79 4 n = m1 := ⟨_, rfl⟩
    have CH1 := tz_changes (x := m1) hWK hB
    have g1 : ∀ u, u ≠ 79 → m1 u = m u := fun u hu => by rw [← hm1, zup_row hu]
    rw [g1 3 (by decide)] at CH1
    obtain ⟨m2, hm2⟩ : ∃ m2, zup m1 79 5 (m 3 3) = m2 := ⟨_, rfl⟩
    have q2 : QS m m2 := by rw [← hm2, ← hm1]; exact QS_79 (QS_79 (QS_self m) (by omega) _) (by omega) _
    have g2 : ∀ u, u ≠ 79 → m2 u = m u := fun u hu => by rw [← hm2, zup_row hu, g1 u hu]
    have hW2 := QS_WRs q2 hW
    have hP2 : TPs m2 w n := by
      refine ⟨by rw [q2.2.2.1 1 (by decide) (by decide) (by decide) (by decide)]; exact h1, hP.2.1, hP.2.2.1, fun t t0 t1 => ?_⟩
      rw [g2 80 (by decide), g2 81 (by decide)]; exact hP.2.2.2 t t0 t1
    have hL2 : m2 70 7 = m2 3 3 → LDok m2 := by
      intro e
      rw [g2 70 (by decide), g2 3 (by decide)] at e
      have hL := hL e
      unfold LDok LDr cGo cBs cGr cQ at *
      rw [g2 3 (by decide), g2 4 (by decide), g2 5 (by decide), g2 73 (by decide), g2 74 (by decide)]
      exact hL
    obtain ⟨x3, e3, q3, l3, l3n, C3, h79, hT3⟩ := tz_pbegin (R := R) hPK hWK hB hW2 hP2 hL2
    have L1 : ev 134 0 [(2, 79), (9, 0)] [] R m = ev 134 56 [(2, 79), (0, 1)] [] R (zup x3 79 2 0) := by
      by_cases c1 : m 79 4 = n
      · have c2 : ¬ m 79 5 = m 3 3 := fun h => c ⟨c1, h⟩
        have c3 : ¬ m 3 3 = m 79 5 := fun h => c2 h.symm
        simp only [s134_0, s134_1, s134_4, s134_5, s134_8, s134_11, s134_12, s134_15, s134_16, s134_19, s134_22, s134_25, s134_26, s134_27, s134_28, s134_31, s134_34, s134_35, s134_36, s134_39, s134_42, s134_45, s134_46, s134_49, s134_50, s134_51, s134_52, s134_53, s134_57, s134_60, s134_61, s134_64, s134_66, s134_69, s134_70, s134_73, s134_74, s134_75, s134_76, s134_79, s134_80, s134_81, s134_84, s134_87, s134_88, s134_89, s134_92, zps_0, zps_1, zps_2, zps_3, zps_9, Option.bind_some, Option.bind_none, Int.reduceEq, Int.reduceNe, Int.reduceLT, Int.reduceLE, Int.reduceNeg, Int.reduceAdd, Int.reduceSub, Int.reduceMul, reduceIte, if_true, if_false, true_and, and_true, false_and, and_false, or_true, true_or, or_false, false_or, not_true_eq_false, not_false_eq_true, ite_not, z_b0, z_b1, z_b01, rPK0 hPK, rPK1 hPK, rPK2 hPK, rPK3 hPK, rPK4 hPK, rPK5 hPK, rPK6 hPK, rPK7 hPK, kPK0, kPK1, kPK2, kPK3, kPK4, kPK5, kPK6, kPK7, kPK8, kPK9, kPK10, kPK11, kPK12, kPK13, kPK14, rWK0 hWK, rWK1 hWK, rWK2 hWK, rWK3 hWK, rWK4 hWK, rWK5 hWK, rWK6 hWK, rWK7 hWK, rWK8 hWK, kWK0, kWK1, kWK2, kWK3, kWK4, kWK5, kWK6, kWK7, kWK8, kWK9, kWK10, kWK11, kWK12, kWK13, kWK14, kWK15, kWK16, h1, CH, c1, c2, c3, hm1, CH1, hm2, e3, if_true, if_false]
      · have c3 : ¬ (n : Int) = m 79 4 := fun h => c1 h.symm
        simp only [s134_0, s134_1, s134_4, s134_5, s134_8, s134_11, s134_12, s134_15, s134_16, s134_19, s134_22, s134_25, s134_26, s134_27, s134_28, s134_31, s134_34, s134_35, s134_36, s134_39, s134_42, s134_45, s134_46, s134_49, s134_50, s134_51, s134_52, s134_53, s134_57, s134_60, s134_61, s134_64, s134_66, s134_69, s134_70, s134_73, s134_74, s134_75, s134_76, s134_79, s134_80, s134_81, s134_84, s134_87, s134_88, s134_89, s134_92, zps_0, zps_1, zps_2, zps_3, zps_9, Option.bind_some, Option.bind_none, Int.reduceEq, Int.reduceNe, Int.reduceLT, Int.reduceLE, Int.reduceNeg, Int.reduceAdd, Int.reduceSub, Int.reduceMul, reduceIte, if_true, if_false, true_and, and_true, false_and, and_false, or_true, true_or, or_false, false_or, not_true_eq_false, not_false_eq_true, ite_not, z_b0, z_b1, z_b01, rPK0 hPK, rPK1 hPK, rPK2 hPK, rPK3 hPK, rPK4 hPK, rPK5 hPK, rPK6 hPK, rPK7 hPK, kPK0, kPK1, kPK2, kPK3, kPK4, kPK5, kPK6, kPK7, kPK8, kPK9, kPK10, kPK11, kPK12, kPK13, kPK14, rWK0 hWK, rWK1 hWK, rWK2 hWK, rWK3 hWK, rWK4 hWK, rWK5 hWK, rWK6 hWK, rWK7 hWK, rWK8 hWK, kWK0, kWK1, kWK2, kWK3, kWK4, kWK5, kWK6, kWK7, kWK8, kWK9, kWK10, kWK11, kWK12, kWK13, kWK14, kWK15, kWK16, h1, CH, c1, c3, hm1, CH1, hm2, e3, if_true, if_false]
    have ok := tIn_ok hW.1.2.1 hP.2.2.1 n (Nat.le_refl _)
    have S0 : TSt x3 w n (tIn w n) := ⟨l3, l3n, C3, by rw [h79]; exact hP2.1, fun u u0 u1 => by
      obtain ⟨a, b, d⟩ := hT3 u u0 u1
      exact ⟨a, b, d, ok u u0 u1⟩⟩
    obtain ⟨x4, e4, b1, b2, b3, b4, b5⟩ := tz_strounds (R := R) hPK hWK hB hW hP 40 (zup x3 79 2 0) (tIn w n) (by omega) (QS_79 (QS_tr q2 q3) (by omega) _) (TSt_79 S0 (by decide) _) (by rw [zup_at]; rfl)
    refine ⟨x4, by rw [L1, e4], b1, b2, ?_, b3, b5⟩
    rw [b4.1, b4.2, zup_ne (Or.inr (by decide)), zup_ne (Or.inr (by decide)), h79, ← hm2, zup_ne (Or.inr (by decide)), zup_at, ← hm1, zup_at]
    exact ⟨rfl, rfl⟩
end SETTLE5
