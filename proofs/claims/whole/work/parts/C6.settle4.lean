/-! the class settles trips: a trip in a round -/
def TSt (x w : zM) (n : Nat) (T : zTS) : Prop := (x 70 7 = x 3 3 → LDok x) ∧ (0 < n → LDok x) ∧ CWd x (tCw T n (-1)) ∧ x 79 1 = n ∧ ∀ u : Int, 0 ≤ u → u < n → TRw x T u ∧ (x 82 u = if 0 < T.1 u then 0 else 1) ∧ x 83 u = pD (wX w (fun _ => 0)) (w 140 u) (w 139 u) ∧ TOt w T u
section SETTLE4
variable {R m w x y z : zM} {T T' : zTS} {t : Int} {n : Nat} {c : Int → Int} {D : Int → Int}
theorem tz_goT (hPK : PK R) (hWK : WK R) (hW : WRs m w) (hn8 : n ≤ 8) (hq : QS m z) {k : Nat} (hk : k < n) (h1 : z 79 1 = n) (hL : LDok z) (hC : CWd z (tCw T n k)) (hne : ∀ u : Int, 0 ≤ u → u < n → u ≠ k → tCw1 T' u = tCw1 T u) (hT : ∀ u : Int, 0 ≤ u → u < n → TRw z T' u ∧ (z 82 u = if 0 < T'.1 u then 0 else 1) ∧ z 83 u = pD (wX w (fun _ => 0)) (w 140 u) (w 139 u) ∧ TOt w T' u) (b : Int) : ∃ x' : zM, ev 141 102 [(2, 79), (0, b), (0, (k : Int))] [] R z = ev 141 4 [(2, 79), (0, b), (0, ((k + 1 : Nat) : Int))] [] R x' ∧ QS m x' ∧ TSt x' w n T' ∧ x' 79 = z 79 ∧ x' 84 = z 84 := by
  have tt : 0 ≤ (k : Int) ∧ (k : Int) < z 79 1 ∧ (k : Int) < 8 := by rw [h1]; omega
  have e : tCw T n k = tCw T' n k := by
    funext e
    exact (tCw_ne (T := T) (T' := T') n k e (fun u u0 u1 hu => by rw [hne u u0 u1 hu])).symm
  have cb : ∀ e, 0 ≤ e → e < 128 → -1000 ≤ tCw T n k e ∧ tCw T n k e ≤ 1000 := fun e' _ _ => by
    have := tCw_b (n := n) hn8 (fun t t0 t1 => (hT t t0 t1).2.2.2) k e'
    rw [← e] at this
    omega
  obtain ⟨tr, -, -, ok⟩ := hT k (by omega) (by omega)
  obtain ⟨f, e1, hC2⟩ := tz_taddCrowd (R := R) hPK hWK hL (QS_WRs hq hW) hC cb tt tr ok (Or.inl rfl : (1 : Int) = 1 ∨ (1 : Int) = -1)
  have z1 : zw ((k : Int) + 1) = ((k + 1 : Nat) : Int) := by rw [zw_i (by omega) (by omega)]; rfl
  refine ⟨zpr z 75 f, ?_, QS_tr hq (QS_zpr _ _ (by omega)), ⟨fun _ => LDok_75 f hL, fun _ => LDok_75 f hL, ?_, by rw [zpr_ne (by decide), h1], fun u u0 u1 => ?_⟩, zpr_ne (by decide), zpr_ne (by decide)⟩
  · simp only [s141_0, s141_1, s141_2, s141_3, s141_5, s141_6, s141_9, s141_12, s141_13, s141_15, s141_18, s141_19, s141_20, s141_23, s141_26, s141_29, s141_30, s141_31, s141_32, s141_35, s141_36, s141_39, s141_40, s141_43, s141_44, s141_45, s141_46, s141_49, s141_50, s141_53, s141_54, s141_55, s141_56, s141_59, s141_60, s141_61, s141_64, s141_65, s141_68, s141_69, s141_70, s141_73, s141_74, s141_77, s141_78, s141_79, s141_82, s141_83, s141_86, s141_87, s141_90, s141_91, s141_92, s141_95, s141_96, s141_97, s141_100, s141_101, s141_102, s141_103, s141_104, s141_105, s141_108, s141_111, s141_114, s141_115, zps_0, zps_1, zps_2, zps_3, zps_9, Option.bind_some, Option.bind_none, Int.reduceEq, Int.reduceNe, Int.reduceLT, Int.reduceLE, Int.reduceNeg, Int.reduceAdd, Int.reduceSub, Int.reduceMul, reduceIte, if_true, if_false, true_and, and_true, false_and, and_false, or_true, true_or, or_false, false_or, not_true_eq_false, not_false_eq_true, ite_not, z_b0, z_b1, z_b01, rPK0 hPK, rPK1 hPK, rPK2 hPK, rPK3 hPK, rPK4 hPK, rPK5 hPK, rPK6 hPK, rPK7 hPK, kPK0, kPK1, kPK2, kPK3, kPK4, kPK5, kPK6, kPK7, kPK8, kPK9, kPK10, kPK11, kPK12, kPK13, kPK14, e1, z1]
  · have : tCw T' n (-1) = fun e => tCw T n k e + 1 * tCw1 T' k e := by
      funext e'
      rw [tCw_but T' n k e' (by omega) (by omega), e]; omega
    rw [this]; exact hC2
  · obtain ⟨a, b, d, o⟩ := hT u u0 u1
    rw [zpr_ne (by decide), zpr_ne (by decide)]
    exact ⟨TRw_c (zpr_ne (by decide)) (zpr_ne (by decide)) a, b, d, o⟩
theorem tCw1_f {T' : zTS} (h1 : T'.1 t = T.1 t) (h2 : ∀ i, 0 ≤ i → i < T.1 t → T'.2 (64 * t + i) = T.2 (64 * t + i)) : tCw1 T' t = tCw1 T t := by funext e; exact tCw1_c h1 h2 e
theorem tCw_ex (T : zTS) (n : Nat) (t e : Int) (h0 : 0 ≤ t) (h1 : t < n) : tCw T n (-1) e + -1 * tCw1 T t e = tCw T n t e := by
  rw [tCw_but T n t e h0 h1]; omega
theorem tz_go1 (hPK : PK R) (hWK : WK R) (hB : BK R 3) (hW : WRs m w) (hP : TPs m w n) (hq : QS m x) {S : zTS × Bool} (hS : TSt x w n S.1) {k : Nat} (hk : k < n) : ∃ x' : zM, ev 141 4 [(2, 79), (0, if S.2 = true then 1 else 0), (0, (k : Int))] [] R x = ev 141 4 [(2, 79), (0, if (tS1 w n k S).2 = true then 1 else 0), (0, ((k + 1 : Nat) : Int))] [] R x' ∧ QS m x' ∧ TSt x' w n (tS1 w n k S).1 ∧ x' 79 = x 79 ∧ (∀ u, u ≠ (k : Int) → x' 84 u = x 84 u) ∧ (0 < S.1.1 k → x' 84 k = tTk (wX w (tCw S.1 n k)) S.1 k) := by
  have hV := hW.1.2.1
  have hn8 := hP.2.1
  have n0 : 0 < n := by omega
  have k0 : 0 ≤ (k : Int) := by omega
  have kn : (k : Int) < n := by omega
  obtain ⟨l7, ln, hC, h1, hT⟩ := hS
  have F := hP.2.2.1 k (by omega) (by omega)
  have P := hP.2.2.2 k (by omega) (by omega)
  obtain ⟨tr, o82, o83, ok⟩ := hT k (by omega) (by omega)
  have tt : 0 ≤ (k : Int) ∧ (k : Int) < x 79 1 ∧ (k : Int) < 8 := by rw [h1]; omega
  have IO := tz_isOut (R := R) (m := x) hPK tt
  have c1 : (k : Int) < n := by omega
  have c2 : ¬ (n : Int) ≤ k := by omega
  have c3 : (k : Int) < 8 := by omega
  have c4 : ¬ (8 : Int) ≤ k := by omega
  have c5 : 0 ≤ (k : Int) ∧ (k : Int) < 8 := by omega
  have z1 : zw ((k : Int) + 1) = ((k + 1 : Nat) : Int) := by rw [zw_i (by omega) (by omega)]; rfl
  by_cases r : 0 < S.1.1 k
  · rw [if_pos r] at o82
    rw [o82, if_neg (by decide)] at IO
    have hL := ln n0
    have cb0 : ∀ but e : Int, 0 ≤ tCw S.1 n but e ∧ tCw S.1 n but e ≤ 1000 := fun but e => tCw_b hn8 (fun t t0 t1 => (hT t t0 t1).2.2.2) but e
    obtain ⟨f, e1, hC1⟩ := tz_taddCrowd (R := R) hPK hWK hL (QS_WRs hq hW) hC (fun e _ _ => by have := cb0 (-1) e; omega) tt tr ok (Or.inr rfl : (-1 : Int) = 1 ∨ (-1 : Int) = -1)
    have ec : (fun e => tCw S.1 n (-1) e + -1 * tCw1 S.1 k e) = tCw S.1 n k := by
      funext e
      exact tCw_ex S.1 n k e k0 kn
    rw [ec] at hC1
    obtain ⟨x1, hx1⟩ : ∃ x1, zpr x 75 f = x1 := ⟨_, rfl⟩
    have g1 : ∀ u, u ≠ 75 → x1 u = x u := fun u hu => by rw [← hx1, zpr_ne hu]
    have q1 : QS x x1 := by rw [← hx1]; exact QS_zpr _ _ (by omega)
    have L1 : LDok x1 := by rw [← hx1]; exact LDok_75 f hL
    rw [hx1] at e1 hC1
    have cb : ∀ e, 0 ≤ e → e < 128 → 0 ≤ tCw S.1 n k e ∧ tCw S.1 n k e ≤ 1000 := fun e _ _ => cb0 k e
    obtain ⟨y, e2, hCT, y1, y2, y3, y4⟩ := tz_tmeasure (R := R) hWK hB (QS_WRs (QS_tr hq q1) hW) (fun _ => L1) hC1 cb F.2
    have y79 : y 79 = x 79 := by rw [y1 79 (by decide) (by decide) (by decide) (by decide) (by decide), g1 79 (by decide)]
    have qy : QS x1 y := ⟨fun b b1 b2 b3 b4 b5 b6 b7 b8 b9 b10 b11 b12 b13 => y1 b b1 b2 b3 b5 b6, fun k k1 k2 k3 k4 k5 => y2 k k1 k2, fun k _ _ _ _ => by rw [y1 79 (by decide) (by decide) (by decide) (by decide) (by decide)], Or.inr y3⟩
    have qmy : QS m y := QS_tr hq (QS_tr q1 qy)
    have yg : ∀ u, 78 ≤ u → y u = x u := fun u hu => by rw [y1 u (by omega) (by omega) (by omega) (by omega) (by omega), g1 u (by omega)]
    have trY : TRw y S.1 k := TRw_c (yg 85 (by decide)) (yg 86 (by decide)) tr
    have ttY : 0 ≤ (k : Int) ∧ (k : Int) < y 79 1 ∧ (k : Int) < 8 := by rw [y79]; exact tt
    have TW := tz_timeOfWay (R := R) hPK hWK hV hCT.1 (QS_WRs qmy hW) hCT.2.2.1 y4 cb ttY trY ok
    have tkb := tTk_b hV cb ok
    obtain ⟨tk, htk⟩ : ∃ tk, tTk (wX w (tCw S.1 n k)) S.1 k = tk := ⟨_, rfl⟩
    obtain ⟨d, hd⟩ : ∃ d, pD (wX w (tCw S.1 n k)) (w 140 k) (w 139 k) = d := ⟨_, rfl⟩
    have yD := (hCT.2.2.2.2 (w 139 k) F.1.1 (by omega)).1
    rw [hd] at yD
    rw [htk] at TW tkb
    obtain ⟨v, hv⟩ : ∃ v, zup y 84 k tk = v := ⟨_, rfl⟩
    have gv : ∀ u, u ≠ 84 → v u = y u := fun u hu => by rw [← hv, zup_row hu]
    have v84 : v 84 k = tk := by rw [← hv, zup_at]
    have v84n : ∀ u, u ≠ (k : Int) → v 84 u = x 84 u := fun u hu => by rw [← hv, zup_ne (Or.inr hu), yg 84 (by decide)]
    have TF : ev 158 0 [(2, 70), (0, w 139 k)] [] R v = some ((0, d), R, v) := by
      have h := tz_timeFrom (m := v) hWK (w 139 k)
      rw [if_pos (show 0 ≤ w 139 k ∧ w 139 k < 88 by omega), gv 76 (by decide), yD] at h
      exact h
    have x180 : x1 81 k = w 140 k := by rw [g1 81 (by decide), QS_b hq (by decide)]; exact P.2
    have v80 : v 80 k = w 139 k := by rw [gv 80 (by decide), yg 80 (by decide), QS_b hq (by decide)]; exact P.1
    have v79 : v 79 = x 79 := by rw [gv 79 (by decide), y79]
    have CTv : CTr v (wX w (tCw S.1 n k)) (pD (wX w (tCw S.1 n k)) (w 140 k)) := CTr_g (fun b b0 b1 => gv b (by omega)) (by rw [gv 70 (by decide)]) (by rw [gv 70 (by decide)]) (fun b b0 b1 => gv b (by omega)) hCT
    have qv : QS m v := QS_tr qmy (by rw [← hv, zup_zpr]; exact QS_zpr _ _ (by omega))
    have CWv : CWd v (tCw S.1 n k) := CWd_c (m := x1) (by rw [gv 3 (by decide), y1 3 (by decide) (by decide) (by decide) (by decide) (by decide)]) (by rw [gv 4 (by decide), y1 4 (by decide) (by decide) (by decide) (by decide) (by decide)]) (by rw [gv 75 (by decide), y1 75 (by decide) (by decide) (by decide) (by decide) (by decide)]) hC1
    have trv : ∀ u : Int, 0 ≤ u → u < n → TRw v S.1 u ∧ (v 82 u = if 0 < S.1.1 u then 0 else 1) ∧ v 83 u = pD (wX w (fun _ => 0)) (w 140 u) (w 139 u) ∧ TOt w S.1 u := fun u u0 u1 => by
      obtain ⟨a, b, e, o⟩ := hT u u0 u1
      rw [gv 82 (by decide), gv 83 (by decide), yg 82 (by decide), yg 83 (by decide)]
      exact ⟨TRw_c (by rw [gv 85 (by decide), yg 85 (by decide)]) (by rw [gv 86 (by decide), yg 86 (by decide)]) a, b, e, o⟩
    by_cases r2 : d < tk
    · have r3 : ¬ tk ≤ d := by omega
      have rD : pD (wX w (tCw S.1 n k)) (w 140 k) (w 139 k) < 1000000 := by rw [hd]; omega
      have eS : tS1 w n k S = (tGo (wX w (tCw S.1 n k)) (w 139 k) (w 140 k) k S.1, true) := by
        unfold tS1
        rw [if_pos ⟨r, by rw [hd, htk]; exact r2⟩]
      obtain ⟨y', z, e3, e4, q3, z7, z10, z79, zr, zo, zt, zu⟩ := tz_retrace (R := R) (t := (k : Int)) hPK hWK hB hV cb F.1 F.2 CTv rD (by rw [v79]; exact tt) S.1
      have zg : ∀ b, 3 ≤ b → b ≤ 8 → z b = v b := fun b b0 b1 => QS_b q3 (by omega)
      have lz : LDok z := (CTr_g (y := z) (x := v) zg (q3.2.1 1 (by decide) (by decide) (by decide) (by decide) (by decide)) z10 (fun b b0 b1 => zr b b0 (by omega)) CTv).1
      have ne := fun u (h : u ≠ (k : Int)) => tGo_ne (wX w (tCw S.1 n k)) (a := w 139 k) (b := w 140 k) (t := k) (u := u) S.1 (tGo_f hV cb F.1 F.2 rD).1 h
      have cW : CWd z (tCw S.1 n k) := CWd_c (zg 3 (by decide) (by decide)) (zg 4 (by decide) (by decide)) (zr 75 (by decide) (by decide)) CWv
      obtain ⟨x', e5, a1, a2, a3, a4⟩ := tz_goT (R := R) (T := S.1) (T' := tGo (wX w (tCw S.1 n k)) (w 139 k) (w 140 k) k S.1) hPK hWK hW hn8 (QS_tr qv q3) hk (by rw [z79, v79, h1]) lz cW (fun u u0 u1 hu => tCw1_f (ne u hu).1 (fun i i0 i1 => (ne u hu).2 i i0 (by have := (hT u u0 u1).2.2.2.1.2; omega))) (fun u u0 u1 => by
        rw [zo 82 (by decide) (by decide), zo 83 (by decide) (by decide)]
        obtain ⟨b1, b2, b3, b4⟩ := trv u u0 u1
        by_cases e : u = k
        · subst e
          refine ⟨zt, ?_, b3, tGo_ok hV cb F.1 F.2 rD _ _⟩
          rw [b2, if_pos r, (tGo_at _ _ _ _ _).1, if_pos (by omega)]
        · refine ⟨zu u e b1 b4.1.2, ?_, b3, TOt_c (ne u e).1 (fun i i0 i1 => (ne u e).2 i i0 (by have := b4.1.2; omega)) b4⟩
          rw [(ne u e).1]; exact b2) 1
      refine ⟨x', ?_, a1, ?_, by rw [a3, z79, v79], fun u hu => ?_, fun _ => ?_⟩
      · rw [eS]
        refine Eq.trans ?_ e5
        rw [s141_4]
        simp only [s141_0, s141_1, s141_2, s141_3, s141_5, s141_6, s141_9, s141_12, s141_13, s141_15, s141_18, s141_19, s141_20, s141_23, s141_26, s141_29, s141_30, s141_31, s141_32, s141_35, s141_36, s141_39, s141_40, s141_43, s141_44, s141_45, s141_46, s141_49, s141_50, s141_53, s141_54, s141_55, s141_56, s141_59, s141_60, s141_61, s141_64, s141_65, s141_68, s141_69, s141_70, s141_73, s141_74, s141_77, s141_78, s141_79, s141_82, s141_83, s141_86, s141_87, s141_90, s141_91, s141_92, s141_95, s141_96, s141_97, s141_100, s141_101, s141_103, s141_104, s141_105, s141_108, s141_111, s141_114, s141_115, zps_0, zps_1, zps_2, zps_3, zps_9, Option.bind_some, Option.bind_none, Int.reduceEq, Int.reduceNe, Int.reduceLT, Int.reduceLE, Int.reduceNeg, Int.reduceAdd, Int.reduceSub, Int.reduceMul, reduceIte, if_true, if_false, true_and, and_true, false_and, and_false, or_true, true_or, or_false, false_or, not_true_eq_false, not_false_eq_true, ite_not, z_b0, z_b1, z_b01, rPK0 hPK, rPK1 hPK, rPK2 hPK, rPK3 hPK, rPK4 hPK, rPK5 hPK, rPK6 hPK, rPK7 hPK, kPK0, kPK1, kPK2, kPK3, kPK4, kPK5, kPK6, kPK7, kPK8, kPK9, kPK10, kPK11, kPK12, kPK13, kPK14, rWK0 hWK, rWK1 hWK, rWK2 hWK, rWK3 hWK, rWK4 hWK, rWK5 hWK, rWK6 hWK, rWK7 hWK, rWK8 hWK, kWK0, kWK1, kWK2, kWK3, kWK4, kWK5, kWK6, kWK7, kWK8, kWK9, kWK10, kWK11, kWK12, kWK13, kWK14, kWK15, kWK16, h1, c1, c2, c3, c4, c5, IO, e1, e2, x180, TW, hv, v80, v84, TF, r3, e3, e4, and_self, if_true, if_false]
      · rw [eS]; exact a2
      · rw [a4, zo 84 (by decide) (by decide), v84n u hu]
      · rw [a4, zo 84 (by decide) (by decide), v84]; exact htk.symm
    · have r3 : tk ≤ d := by omega
      have eS : tS1 w n k S = S := by
        unfold tS1
        rw [if_neg (fun q => r2 (by have := q.2; rw [hd, htk] at this; exact this))]
      obtain ⟨x', e5, a1, a2, a3, a4⟩ := tz_goT (R := R) (T := S.1) (T' := S.1) hPK hWK hW hn8 qv hk (by rw [v79, h1]) CTv.1 CWv (fun u u0 u1 hu => rfl) trv (if S.2 = true then 1 else 0)
      refine ⟨x', ?_, a1, ?_, by rw [a3, v79], fun u hu => ?_, fun _ => ?_⟩
      · rw [eS]
        refine Eq.trans ?_ e5
        rw [s141_4]
        simp only [s141_0, s141_1, s141_2, s141_3, s141_5, s141_6, s141_9, s141_12, s141_13, s141_15, s141_18, s141_19, s141_20, s141_23, s141_26, s141_29, s141_30, s141_31, s141_32, s141_35, s141_36, s141_39, s141_40, s141_43, s141_44, s141_45, s141_46, s141_49, s141_50, s141_53, s141_54, s141_55, s141_56, s141_59, s141_60, s141_61, s141_64, s141_65, s141_68, s141_69, s141_70, s141_73, s141_74, s141_77, s141_78, s141_79, s141_82, s141_83, s141_86, s141_87, s141_90, s141_91, s141_92, s141_95, s141_96, s141_97, s141_100, s141_101, s141_103, s141_104, s141_105, s141_108, s141_111, s141_114, s141_115, zps_0, zps_1, zps_2, zps_3, zps_9, Option.bind_some, Option.bind_none, Int.reduceEq, Int.reduceNe, Int.reduceLT, Int.reduceLE, Int.reduceNeg, Int.reduceAdd, Int.reduceSub, Int.reduceMul, reduceIte, if_true, if_false, true_and, and_true, false_and, and_false, or_true, true_or, or_false, false_or, not_true_eq_false, not_false_eq_true, ite_not, z_b0, z_b1, z_b01, rPK0 hPK, rPK1 hPK, rPK2 hPK, rPK3 hPK, rPK4 hPK, rPK5 hPK, rPK6 hPK, rPK7 hPK, kPK0, kPK1, kPK2, kPK3, kPK4, kPK5, kPK6, kPK7, kPK8, kPK9, kPK10, kPK11, kPK12, kPK13, kPK14, rWK0 hWK, rWK1 hWK, rWK2 hWK, rWK3 hWK, rWK4 hWK, rWK5 hWK, rWK6 hWK, rWK7 hWK, rWK8 hWK, kWK0, kWK1, kWK2, kWK3, kWK4, kWK5, kWK6, kWK7, kWK8, kWK9, kWK10, kWK11, kWK12, kWK13, kWK14, kWK15, kWK16, h1, c1, c2, c3, c4, c5, IO, e1, e2, x180, TW, hv, v80, v84, TF, r3, and_self, if_true, if_false]
      · rw [eS]; exact a2
      · rw [a4, v84n u hu]
      · rw [a4, v84]; exact htk.symm
  · rw [if_neg r] at o82
    rw [o82, if_pos rfl] at IO
    have eS : tS1 w n k S = S := by unfold tS1; rw [if_neg (fun q => r q.1)]
    refine ⟨x, ?_, hq, ?_, rfl, fun u hu => rfl, fun h => absurd h r⟩
    · rw [eS, s141_4]
      simp only [s141_0, s141_1, s141_2, s141_3, s141_5, s141_6, s141_9, s141_12, s141_13, s141_15, s141_18, s141_19, s141_20, s141_23, s141_26, s141_29, s141_30, s141_31, s141_32, s141_35, s141_36, s141_39, s141_40, s141_43, s141_44, s141_45, s141_46, s141_49, s141_50, s141_53, s141_54, s141_55, s141_56, s141_59, s141_60, s141_61, s141_64, s141_65, s141_68, s141_69, s141_70, s141_73, s141_74, s141_77, s141_78, s141_79, s141_82, s141_83, s141_86, s141_87, s141_90, s141_91, s141_92, s141_95, s141_96, s141_97, s141_100, s141_101, s141_102, s141_103, s141_104, s141_105, s141_108, s141_111, s141_114, s141_115, zps_0, zps_1, zps_2, zps_3, zps_9, Option.bind_some, Option.bind_none, Int.reduceEq, Int.reduceNe, Int.reduceLT, Int.reduceLE, Int.reduceNeg, Int.reduceAdd, Int.reduceSub, Int.reduceMul, reduceIte, if_true, if_false, true_and, and_true, false_and, and_false, or_true, true_or, or_false, false_or, not_true_eq_false, not_false_eq_true, ite_not, z_b0, z_b1, z_b01, rPK0 hPK, rPK1 hPK, rPK2 hPK, rPK3 hPK, rPK4 hPK, rPK5 hPK, rPK6 hPK, rPK7 hPK, kPK0, kPK1, kPK2, kPK3, kPK4, kPK5, kPK6, kPK7, kPK8, kPK9, kPK10, kPK11, kPK12, kPK13, kPK14, h1, c1, c2, c3, c4, IO, z1, if_true, if_false]
    · rw [eS]; exact ⟨l7, ln, hC, h1, hT⟩
end SETTLE4
