/-! the class settles trips: the beginning -/
def TPs (m w : zM) (n : Nat) : Prop := m 79 1 = n ∧ n ≤ 8 ∧ TFt w n ∧ ∀ t : Int, 0 ≤ t → t < n → m 80 t = w 139 t ∧ m 81 t = w 140 t
/-- a trip as it was begun -/
def TBg (x w : zM) (T : zTS) (u : Int) : Prop := TRw x T u ∧ (x 82 u = if 0 < T.1 u then 0 else 1) ∧ x 83 u = pD (wX w (fun _ => 0)) (w 140 u) (w 139 u)
section SETTLE2
variable {R m w x y z : zM} {T : zTS} {t : Int} {n : Nat} {c : Int → Int} {D : Int → Int}
theorem lt_sn {u : Int} {k : Nat} (h : u < ((k + 1 : Nat) : Int)) (e : ¬ u = k) : u < k := by omega
theorem z0b : ∀ e : Int, 0 ≤ e → e < 128 → 0 ≤ (fun _ : Int => (0 : Int)) e ∧ (fun _ : Int => (0 : Int)) e ≤ 1000 := fun e _ _ => by dsimp only; omega
theorem tIn_s (w : zM) (k : Nat) : tIn w (k + 1) = if pD (wX w (fun _ => 0)) (w 140 k) (w 139 k) < 1000000 then tGo (wX w (fun _ => 0)) (w 139 k) (w 140 k) k (tIn w k) else (zrw (tIn w k).1 k 0, (tIn w k).2) := by
  rw [tIn]
  rfl
theorem tz_begin1 (hPK : PK R) (hWK : WK R) (hB : BK R 3) (hW : WRs m w) (hP : TPs m w n) (hq : QS m x) (hL : x 70 7 = x 3 3 → LDok x) (hC : CWd x (fun _ => 0)) (h79 : x 79 = m 79) {k : Nat} (hk : k < n) (hT : ∀ u : Int, 0 ≤ u → u < k → TBg x w (tIn w k) u) : ∃ x' : zM, ev 135 9 [(2, 79), (0, (k : Int))] [] R x = ev 135 9 [(2, 79), (0, ((k + 1 : Nat) : Int))] [] R x' ∧ QS m x' ∧ LDok x' ∧ x' 70 7 = x' 3 3 ∧ CWd x' (fun _ => 0) ∧ x' 79 = m 79 ∧ ∀ u : Int, 0 ≤ u → u < ((k + 1 : Nat) : Int) → TBg x' w (tIn w (k + 1)) u := by
  obtain ⟨p1, p2, p3, p4⟩ := hP
  have hV := hW.1.2.1
  have F := p3 k (by omega) (by omega)
  have P := p4 k (by omega) (by omega)
  obtain ⟨a, hae⟩ : ∃ a, w 139 k = a := ⟨_, rfl⟩
  obtain ⟨b, hbe⟩ : ∃ b, w 140 k = b := ⟨_, rfl⟩
  rw [hae, hbe] at F P
  obtain ⟨y, e1, hCT, y1, y2, y3, y4⟩ := tz_tmeasure (R := R) hWK hB (QS_WRs hq hW) hL hC z0b F.2
  have qy : QS x y := ⟨fun b b1 b2 b3 b4 b5 b6 b7 b8 b9 b10 b11 b12 b13 => y1 b b1 b2 b3 b5 b6, fun k k1 k2 k3 k4 k5 => y2 k k1 k2, fun k _ _ _ _ => by rw [y1 79 (by decide) (by decide) (by decide) (by decide) (by decide)], Or.inr y3⟩
  have y79 : y 79 = m 79 := by rw [y1 79 (by decide) (by decide) (by decide) (by decide) (by decide), h79]
  have x80 : x 80 k = a := by rw [QS_b hq (by decide)]; exact P.1
  have x81 : x 81 k = b := by rw [QS_b hq (by decide)]; exact P.2
  have y80 : y 80 k = a := by rw [y1 80 (by decide) (by decide) (by decide) (by decide) (by decide)]; exact x80
  have yD := (hCT.2.2.2.2 a F.1.1 (by omega)).1
  have t79 : x 79 1 = n := by rw [h79, p1]
  obtain ⟨v, hv⟩ : ∃ v : Int, (if pD (wX w (fun _ => 0)) b a < 1000000 then 0 else 1) = v := ⟨_, rfl⟩
  have RE : ev 164 0 [(2, 70), (0, a)] [] R y = some ((0, if pD (wX w (fun _ => 0)) b a < 1000000 then 1 else 0), R, y) := by
    have h := tz_reaches (m := y) hWK a
    rw [if_pos (show 0 ≤ a ∧ a < 88 by omega), yD] at h
    exact h
  obtain ⟨x2, hx2⟩ : ∃ x2, zup (zup y 82 k v) 83 k (pD (wX w (fun _ => 0)) b a) = x2 := ⟨_, rfl⟩
  have g2 : ∀ u, u ≠ 82 → u ≠ 83 → x2 u = y u := fun u h1 h2 => by rw [← hx2, zup_row h2, zup_row h1]
  have TF : ev 158 0 [(2, 70), (0, a)] [] R (zup y 82 k v) = some ((0, pD (wX w (fun _ => 0)) b a), R, zup y 82 k v) := by
    have h := tz_timeFrom (m := zup y 82 k v) hWK a
    rw [if_pos (show 0 ≤ a ∧ a < 88 by omega), zup_row (by decide), yD] at h
    exact h
  have u80 : zup y 82 k v 80 k = a := by rw [zup_row (by decide)]; exact y80
  have w80 : zup (zup y 82 k v) 83 k (pD (wX w (fun _ => 0)) b a) 80 k = a := by rw [zup_row (by decide)]; exact u80
  have x280 : x2 80 k = a := by rw [g2 80 (by decide) (by decide)]; exact y80
  have CT2 : CTr x2 (wX w (fun _ => 0)) (pD (wX w (fun _ => 0)) b) := CTr_g (fun b b0 b1 => g2 b (by omega) (by omega)) (by rw [g2 70 (by decide) (by decide)]) (by rw [g2 70 (by decide) (by decide)]) (fun b b0 b1 => g2 b (by omega) (by omega)) hCT
  have q2 : QS y x2 := by
    rw [← hx2, zup_zpr, zup_zpr]
    exact QS_tr (QS_zpr y _ (by omega)) (QS_zpr _ _ (by omega))
  have x279 : x2 79 = m 79 := by rw [g2 79 (by decide) (by decide), y79]
  have tt : 0 ≤ (k : Int) ∧ (k : Int) < x2 79 1 ∧ (k : Int) < 8 := by rw [x279, p1]; omega
  have c1 : (k : Int) < n := by omega
  have c2 : ¬ (n : Int) ≤ k := by omega
  have c3 : (k : Int) < 8 := by omega
  have c4 : ¬ (8 : Int) ≤ k := by omega
  have c5 : 0 ≤ (k : Int) ∧ (k : Int) < 8 := by omega
  have z1 : zw ((k : Int) + 1) = ((k + 1 : Nat) : Int) := by rw [zw_i (by omega) (by omega)]; rfl
  have L1 : ev 135 9 [(2, 79), (0, (k : Int))] [] R x = ev 135 93 [(2, 79), (0, (k : Int))] [(0, a), (2, 70)] R x2 := by
    rw [s135_9, ← hx2]
    by_cases r : pD (wX w (fun _ => 0)) b a < 1000000
    · rw [if_pos r] at hv RE
      subst hv
      simp only [s135_0, s135_1, s135_4, s135_7, s135_8, s135_10, s135_11, s135_14, s135_17, s135_18, s135_20, s135_23, s135_24, s135_27, s135_28, s135_31, s135_32, s135_33, s135_34, s135_37, s135_38, s135_41, s135_42, s135_43, s135_46, s135_47, s135_50, s135_51, s135_52, s135_55, s135_58, s135_59, s135_62, s135_63, s135_64, s135_65, s135_68, s135_69, s135_70, s135_73, s135_74, s135_77, s135_78, s135_79, s135_82, s135_83, s135_84, s135_87, s135_88, s135_91, s135_92, s135_96, s135_97, s135_98, s135_101, s135_104, s135_107, s135_108, s135_110, s135_111, s135_114, s135_117, s135_118, s135_119, s135_120, s135_123, s135_126, s135_129, zps_0, zps_1, zps_2, zps_3, zps_9, Option.bind_some, Option.bind_none, Int.reduceEq, Int.reduceNe, Int.reduceLT, Int.reduceLE, Int.reduceNeg, Int.reduceAdd, Int.reduceSub, Int.reduceMul, reduceIte, if_true, if_false, true_and, and_true, false_and, and_false, or_true, true_or, or_false, false_or, not_true_eq_false, not_false_eq_true, ite_not, z_b0, z_b1, z_b01, rPK0 hPK, rPK1 hPK, rPK2 hPK, rPK3 hPK, rPK4 hPK, rPK5 hPK, rPK6 hPK, rPK7 hPK, kPK0, kPK1, kPK2, kPK3, kPK4, kPK5, kPK6, kPK7, kPK8, kPK9, kPK10, kPK11, kPK12, kPK13, kPK14, rWK0 hWK, rWK1 hWK, rWK2 hWK, rWK3 hWK, rWK4 hWK, rWK5 hWK, rWK6 hWK, rWK7 hWK, rWK8 hWK, kWK0, kWK1, kWK2, kWK3, kWK4, kWK5, kWK6, kWK7, kWK8, kWK9, kWK10, kWK11, kWK12, kWK13, kWK14, kWK15, kWK16, t79, x80, x81, y80, u80, w80, c1, c2, c3, c4, c5, e1, RE, TF, true_or, or_true, and_self, if_true, if_false]
    · rw [if_neg r] at hv RE
      subst hv
      simp only [s135_0, s135_1, s135_4, s135_7, s135_8, s135_10, s135_11, s135_14, s135_17, s135_18, s135_20, s135_23, s135_24, s135_27, s135_28, s135_31, s135_32, s135_33, s135_34, s135_37, s135_38, s135_41, s135_42, s135_43, s135_46, s135_47, s135_50, s135_51, s135_52, s135_55, s135_58, s135_59, s135_62, s135_63, s135_64, s135_65, s135_68, s135_69, s135_70, s135_73, s135_74, s135_77, s135_78, s135_79, s135_82, s135_83, s135_84, s135_87, s135_88, s135_91, s135_92, s135_96, s135_97, s135_98, s135_101, s135_104, s135_107, s135_108, s135_110, s135_111, s135_114, s135_117, s135_118, s135_119, s135_120, s135_123, s135_126, s135_129, zps_0, zps_1, zps_2, zps_3, zps_9, Option.bind_some, Option.bind_none, Int.reduceEq, Int.reduceNe, Int.reduceLT, Int.reduceLE, Int.reduceNeg, Int.reduceAdd, Int.reduceSub, Int.reduceMul, reduceIte, if_true, if_false, true_and, and_true, false_and, and_false, or_true, true_or, or_false, false_or, not_true_eq_false, not_false_eq_true, ite_not, z_b0, z_b1, z_b01, rPK0 hPK, rPK1 hPK, rPK2 hPK, rPK3 hPK, rPK4 hPK, rPK5 hPK, rPK6 hPK, rPK7 hPK, kPK0, kPK1, kPK2, kPK3, kPK4, kPK5, kPK6, kPK7, kPK8, kPK9, kPK10, kPK11, kPK12, kPK13, kPK14, rWK0 hWK, rWK1 hWK, rWK2 hWK, rWK3 hWK, rWK4 hWK, rWK5 hWK, rWK6 hWK, rWK7 hWK, rWK8 hWK, kWK0, kWK1, kWK2, kWK3, kWK4, kWK5, kWK6, kWK7, kWK8, kWK9, kWK10, kWK11, kWK12, kWK13, kWK14, kWK15, kWK16, t79, x80, x81, y80, u80, w80, c1, c2, c3, c4, c5, e1, RE, TF, true_or, or_true, and_self, if_true, if_false]
  have x2v : x2 82 k = v ∧ x2 83 k = pD (wX w (fun _ => 0)) b a ∧ ∀ u, u ≠ (k : Int) → x2 82 u = x 82 u ∧ x2 83 u = x 83 u := by
    rw [← hx2]
    refine ⟨by rw [zup_row (by decide), zup_at], zup_at _ _ _ _, fun u hu => ⟨?_, ?_⟩⟩
    · rw [zup_row (by decide), zup_ne (Or.inr hu), y1 82 (by decide) (by decide) (by decide) (by decide) (by decide)]
    · rw [zup_ne (Or.inr hu), zup_row (by decide), y1 83 (by decide) (by decide) (by decide) (by decide) (by decide)]
  have FIN : ∀ (y' z : zM) (T' : zTS), T' = tIn w (k + 1) → (∀ u : Int, u ≠ k → T'.1 u = (tIn w k).1 u) → ev 165 0 [(2, 70), (0, a), (9, 0), (9, 0), (9, 0)] [] R x2 = some ((9, 0), R, y') → ev 136 0 [(2, 79), (0, (k : Int)), (9, 0)] [] R y' = some ((9, 0), R, z) → QS x2 z → z 70 7 = x2 70 7 → z 70 10 = x2 70 10 → z 79 = x2 79 → (∀ u, 71 ≤ u → u ≤ 77 → z u = x2 u) → (∀ u, 82 ≤ u → u ≤ 84 → z u = x2 u) → TRw z T' k → (v = if 0 < T'.1 k then 0 else 1) → (∀ u, u ≠ (k : Int) → TRw x2 (tIn w k) u → (tIn w k).1 u ≤ 64 → TRw z T' u) → ∃ x' : zM, ev 135 9 [(2, 79), (0, (k : Int))] [] R x = ev 135 9 [(2, 79), (0, ((k + 1 : Nat) : Int))] [] R x' ∧ QS m x' ∧ LDok x' ∧ x' 70 7 = x' 3 3 ∧ CWd x' (fun _ => 0) ∧ x' 79 = m 79 ∧ ∀ u : Int, 0 ≤ u → u < ((k + 1 : Nat) : Int) → TBg x' w (tIn w (k + 1)) u := by
    intro y' z T' hT' hne e3 e4 q3 z7 z10 z79 zr zo zt zv zu
    have qz : QS m z := QS_tr hq (QS_tr qy (QS_tr q2 q3))
    have z3 : ∀ b, 3 ≤ b → b ≤ 8 → z b = x2 b := fun b b0 b1 => QS_b q3 (by omega)
    have lz : LDok z := by
      exact (CTr_g (y := z) (x := x2) z3 (q3.2.1 1 (by decide) (by decide) (by decide) (by decide) (by decide)) z10 (fun b b0 b1 => zr b b0 (by omega)) CT2).1
    refine ⟨z, ?_, qz, lz, ?_, ?_, by rw [z79, x279], fun u u0 u1 => ?_⟩
    · rw [L1]
      simp only [s135_0, s135_1, s135_4, s135_7, s135_8, s135_10, s135_11, s135_14, s135_17, s135_18, s135_20, s135_23, s135_24, s135_27, s135_28, s135_31, s135_32, s135_33, s135_34, s135_37, s135_38, s135_41, s135_42, s135_43, s135_46, s135_47, s135_50, s135_51, s135_52, s135_55, s135_58, s135_59, s135_62, s135_63, s135_64, s135_65, s135_68, s135_69, s135_70, s135_73, s135_74, s135_77, s135_78, s135_79, s135_82, s135_83, s135_84, s135_87, s135_88, s135_91, s135_92, s135_93, s135_96, s135_97, s135_98, s135_101, s135_104, s135_107, s135_108, s135_110, s135_111, s135_114, s135_117, s135_118, s135_119, s135_120, s135_123, s135_126, s135_129, zps_0, zps_1, zps_2, zps_3, zps_9, Option.bind_some, Option.bind_none, Int.reduceEq, Int.reduceNe, Int.reduceLT, Int.reduceLE, Int.reduceNeg, Int.reduceAdd, Int.reduceSub, Int.reduceMul, reduceIte, if_true, if_false, true_and, and_true, false_and, and_false, or_true, true_or, or_false, false_or, not_true_eq_false, not_false_eq_true, ite_not, z_b0, z_b1, z_b01, rPK0 hPK, rPK1 hPK, rPK2 hPK, rPK3 hPK, rPK4 hPK, rPK5 hPK, rPK6 hPK, rPK7 hPK, kPK0, kPK1, kPK2, kPK3, kPK4, kPK5, kPK6, kPK7, kPK8, kPK9, kPK10, kPK11, kPK12, kPK13, kPK14, rWK0 hWK, rWK1 hWK, rWK2 hWK, rWK3 hWK, rWK4 hWK, rWK5 hWK, rWK6 hWK, rWK7 hWK, rWK8 hWK, kWK0, kWK1, kWK2, kWK3, kWK4, kWK5, kWK6, kWK7, kWK8, kWK9, kWK10, kWK11, kWK12, kWK13, kWK14, kWK15, kWK16, e3, e4, z1]
    · rw [z7, g2 70 (by decide) (by decide), y3, QS_b qz (by decide), QS_b hq (by decide)]
    · refine CWd_c (m := x) ?_ ?_ ?_ hC
      · rw [QS_b qz (by decide), QS_b hq (by decide)]
      · rw [QS_b qz (by decide), QS_b hq (by decide)]
      · rw [zr 75 (by decide) (by decide), g2 75 (by decide) (by decide), y1 75 (by decide) (by decide) (by decide) (by decide) (by decide)]
    · rw [← hT']
      unfold TBg
      rw [zo 82 (by decide) (by decide), zo 83 (by decide) (by decide)]
      by_cases e : u = k
      · subst e
        rw [x2v.1, x2v.2.1, hae, hbe]
        exact ⟨zt, zv, rfl⟩
      · obtain ⟨o1, o2⟩ := x2v.2.2 u e
        obtain ⟨t1, t2, t3⟩ := hT u u0 (lt_sn u1 e)
        have ok := tIn_ok hV p3 k (Nat.le_of_lt hk) u u0 (lt_sn u1 e)
        rw [o1, o2, hne u e]
        refine ⟨zu u e (TRw_c ?_ ?_ t1) ok.1.2, t2, t3⟩
        · rw [g2 85 (by decide) (by decide), y1 85 (by decide) (by decide) (by decide) (by decide) (by decide)]
        · rw [g2 86 (by decide) (by decide), y1 86 (by decide) (by decide) (by decide) (by decide) (by decide)]
  by_cases r : pD (wX w (fun _ => 0)) b a < 1000000
  · obtain ⟨y', z, e3, e4, q3, z7, z10, z79, zr, zo, zt, zu⟩ := tz_retrace (R := R) (t := (k : Int)) hPK hWK hB hV z0b F.1 F.2 CT2 r tt (tIn w k)
    refine FIN y' z _ ?_ (fun u hu => (tGo_ne (wX w (fun _ => 0)) (tIn w k) (tGo_f hV z0b F.1 F.2 r).1 hu).1) e3 e4 q3 z7 z10 z79 zr zo zt ?_ zu
    · rw [tIn_s, hae, hbe, if_pos r]
    · rw [← hv, if_pos r, if_pos]
      have := (tGo_at (wX w fun _ => 0) a b k (tIn w k)).1
      rw [this]; omega
  · obtain ⟨y', z, e3, e4, q3, z7, z10, z79, zr, zo, zt, zu⟩ := tz_retrace0 (R := R) (t := (k : Int)) (a := a) hPK hWK F.1 (x := x2) (by rw [g2 76 (by decide) (by decide), yD]; exact r) tt (tIn w k)
    refine FIN y' z _ ?_ (fun u hu => zrw_ne hu) e3 e4 q3 z7 z10 z79 zr zo zt ?_ zu
    · rw [tIn_s, hae, hbe, if_neg r]
    · rw [← hv, if_neg r]
      have : (zrw (tIn w k).1 k 0, (tIn w k).2).1 k = 0 := zrw_at _ _ _
      rw [this]; rfl
end SETTLE2
