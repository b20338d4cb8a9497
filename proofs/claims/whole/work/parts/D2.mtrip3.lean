/-! the model's trips: laid, in rounds -/
def MTs (w y : zM) (n : Nat) (T : zTS) : Prop := QM w y ∧ y 100 56 = 0 ∧ ∀ u : Int, 0 ≤ u → u < n → TMw y T u ∧ TOt w T u
section MTRIP3
variable {R w x y z : zM} {T T' : zTS} {t a b u but : Int} {n : Nat} {c : Int → Int} {D D' : Int → Int}
theorem TMw_c (h1 : y 141 = x 141) (h2 : y 142 = x 142) (h : TMw x T t) : TMw y T t := by
  unfold TMw at *
  rw [h1, h2]; exact h
theorem tz_mlayW2 (hM : MK R) (hV : MV w) (hm : MMs w y c) (ha : 0 ≤ a ∧ a < 64) (hb : 0 ≤ b ∧ b < 64) : ∃ y' : zM, ev 288 0 [(2, 100), (0, a), (0, b)] [] R y = some ((0, if pD (wX w c) b a < 1000000 then 1 else 0), R, y') ∧ MMs w y' c ∧ (∀ s, 0 ≤ s → s < 88 → y' 133 s = pD (wX w c) b s) ∧ ∀ u, u ≠ 133 → u ≠ 134 → y' u = y u := by
  have e := zq0_pD (wX_MV hV c) (wX_Cr w (MMs_c hm)) (MMs_q0 hm) (to := b) ⟨hb.1, by omega⟩
  obtain ⟨D, N, e1, hD⟩ := tz_mlayWay (R := R) hM (QM_MV hm.1 hV) (MMs_Cr hm) ha hb
  rw [e] at e1 hD
  refine ⟨VD y D N, e1, MMs_t hm (QM_VD y D N) (by rw [VD_ne y D N (by decide) (by decide)]) (VD_ne y D N (by decide) (by decide)), fun s s0 s1 => by rw [VD_133]; exact hD s s0 s1, fun u h1 h2 => VD_ne y D N h1 h2⟩
theorem tz_mgoT (hM : MK R) (hV : MV w) (hm : MMs w y c) (ht : 0 ≤ t ∧ t < 8) (ha : 0 ≤ w 139 t ∧ w 139 t < 64) (hb : 0 ≤ w 140 t ∧ w 140 t < 64) (hD : ∀ s, 0 ≤ s → s < 88 → y 133 s = pD (wX w c) (w 140 t) s) (hr : pD (wX w c) (w 140 t) (w 139 t) < 1000000) (T : zTS) : ∃ z : zM, ev 301 0 [(2, 100), (0, t), (9, 0)] [] R y = some ((9, 0), R, z) ∧ MMs w z c ∧ TMw z (tGo (wX w c) (w 139 t) (w 140 t) t T) t ∧ ∀ u, u ≠ t → TMw y T u → T.1 u ≤ 64 → TMw z (tGo (wX w c) (w 139 t) (w 140 t) t T) u := by
  have q := MMs_q0 hm
  have e := zq0_pD (wX_MV hV c) (wX_Cr w (MMs_c hm)) q (to := w 140 t) ⟨hb.1, by omega⟩
  have n1 := (tGo_f hV (MMs_c hm) ha hb hr).1
  obtain ⟨z, e1, g1, g2, g3, g4, g5⟩ := tz_mgoBy (R := R) hM (QM_MV hm.1 hV) (MMs_Cr hm) hm.2.1 ht (a := w 139 t) (b := w 140 t) (by rw [hm.1.1 139 (by decide) (by decide) (by decide) (by decide)]) (by rw [hm.1.1 140 (by decide) (by decide) (by decide) (by decide)]) ha hb (fun s s0 s1 => by rw [e]; exact hD s s0 s1) (by rw [e]; exact hr)
  rw [e, zq0_pLn q] at g3 g4 g5
  have at' := tGo_at (wX w c) (w 139 t) (w 140 t) t T
  refine ⟨z, e1, MMs_t hm ⟨fun b b1 b2 b3 b4 => g1 b b1 (by omega) (by omega) (by omega) b3 b4, fun k _ k2 => g2 k k2⟩ (g2 56 (by decide)) (g1 135 (by decide) (by decide) (by decide) (by decide) (by decide) (by decide)), ?_, fun u hu hT hl => ?_⟩
  · unfold TMw
    rw [at'.1, g3, zrw_at]
    refine ⟨rfl, fun i i0 i1 => ?_⟩
    rw [g4 i i0 (by omega), at'.2 i i0 (by omega), zq0_zpw q]
  · obtain ⟨n2, n3⟩ := tGo_ne (wX w c) (a := w 139 t) (b := w 140 t) (t := t) (u := u) T n1 hu
    unfold TMw at *
    rw [n2, g3, zrw_ne hu]
    refine ⟨hT.1, fun i i0 i1 => ?_⟩
    rw [g5 _ (by omega), n3 i i0 (by omega)]
    exact hT.2 i i0 i1
theorem tz_mlt1 (hM : MK R) (hV : MV w) (hF : TFt w n) (hn8 : n ≤ 8) (h62 : w 100 62 = n) (hm : MMs w y (fun _ => 0)) {k : Nat} (hk : k < n) (hT : ∀ u : Int, 0 ≤ u → u < k → TMw y (tIn w k) u) (l2 l3 l4 : zV) : ∃ y' : zM, ev 300 11 [(2, 100), (0, (k : Int)), l2, l3, l4] [] R y = ev 300 11 [(2, 100), (0, ((k + 1 : Nat) : Int)), l2, l3, l4] [] R y' ∧ MMs w y' (fun _ => 0) ∧ ∀ u : Int, 0 ≤ u → u < ((k + 1 : Nat) : Int) → TMw y' (tIn w (k + 1)) u := by
  have F := hF k (by omega) (by omega)
  have c0 : 0 ≤ (k : Int) ∧ (k : Int) < 8 := by omega
  have c1 : (k : Int) < n := by omega
  have c2 : ¬ (n : Int) ≤ k := by omega
  have y62 : y 100 62 = n := by rw [hm.1.2 62 (by decide) (by decide)]; exact h62
  have z1 : zw ((k : Int) + 1) = ((k + 1 : Nat) : Int) := by rw [zw_i (by omega) (by omega)]; rfl
  obtain ⟨y1, hy1⟩ : ∃ y1, zpr y 141 (zrw (y 141) k 0) = y1 := ⟨_, rfl⟩
  have g1 : ∀ u, u ≠ 141 → y1 u = y u := fun u hu => by rw [← hy1, zpr_ne hu]
  have m1 : MMs w y1 (fun _ => 0) := MMs_t hm (by rw [← hy1]; exact QM_zpr _ _ (by omega)) (by rw [g1 100 (by decide)]) (g1 135 (by decide))
  obtain ⟨y2, e2, m2, d2, g2⟩ := tz_mlayW2 (R := R) hM hV m1 F.1 F.2
  have y139 : y1 139 k = w 139 k := by rw [m1.1.1 139 (by decide) (by decide) (by decide) (by decide)]
  have y140 : y1 140 k = w 140 k := by rw [m1.1.1 140 (by decide) (by decide) (by decide) (by decide)]
  have t2 : ∀ u : Int, 0 ≤ u → u < k → TMw y2 (tIn w k) u := fun u u0 u1 => by
    obtain ⟨a, b⟩ := hT u u0 u1
    refine ⟨?_, fun i i0 i1 => ?_⟩
    · rw [g2 141 (by decide) (by decide), ← hy1, zpr_at, zrw_ne (by omega)]; exact a
    · rw [g2 142 (by decide) (by decide), g1 142 (by decide)]; exact b i i0 i1
  have ok := tIn_ok hV hF k (by omega)
  by_cases r : pD (wX w (fun _ => 0)) (w 140 k) (w 139 k) < 1000000
  · rw [if_pos r] at e2
    obtain ⟨z, e3, m3, t3, t4⟩ := tz_mgoT (R := R) hM hV m2 c0 F.1 F.2 d2 r (tIn w k)
    refine ⟨z, ?_, m3, fun u u0 u1 => ?_⟩
    · rw [s300_11]
      simp only [s300_0, s300_1, s300_2, s300_5, s300_6, s300_9, s300_10, s300_12, s300_13, s300_16, s300_19, s300_20, s300_23, s300_24, s300_25, s300_26, s300_27, s300_28, s300_31, s300_32, s300_33, s300_34, s300_37, s300_38, s300_39, s300_42, s300_45, s300_46, s300_47, s300_50, s300_53, s300_56, s300_57, s300_59, s300_61, s300_64, s300_65, s300_66, s300_67, s300_69, s300_70, s300_73, s300_76, s300_77, s300_80, s300_81, s300_82, s300_85, s300_86, s300_87, s300_90, s300_91, s300_92, s300_95, s300_97, s300_98, s300_99, s300_102, s300_103, s300_104, s300_105, s300_108, s300_109, s300_110, s300_113, s300_116, s300_117, s300_120, s300_121, s300_124, s300_125, s300_126, s300_127, s300_129, s300_132, s300_133, s300_134, s300_137, s300_138, s300_139, s300_142, s300_145, s300_146, s300_149, s300_150, s300_151, s300_154, s300_157, s300_159, zps_0, zps_1, zps_2, zps_3, zps_9, Option.bind_some, Option.bind_none, Int.reduceEq, Int.reduceNe, Int.reduceLT, Int.reduceLE, Int.reduceNeg, Int.reduceAdd, Int.reduceSub, Int.reduceMul, reduceIte, if_true, if_false, true_and, and_true, false_and, and_false, or_true, true_or, or_false, false_or, not_true_eq_false, not_false_eq_true, ite_not, z_b0, z_b1, z_b01, rMK0 hM, rMK1 hM, rMK2 hM, rMK3 hM, rMK4 hM, rMK5 hM, rMK6 hM, rMK7 hM, rMK8 hM, rMK9 hM, rMK10 hM, rMK11 hM, rMK12 hM, rMK13 hM, rMK14 hM, rMK15 hM, rMK16 hM, rMK17 hM, rMK18 hM, rMK19 hM, rMK20 hM, rMK21 hM, rMK22 hM, rMK23 hM, rMK24 hM, rMK25 hM, rMK26 hM, rMK27 hM, rMK28 hM, rMK29 hM, rMK30 hM, rMK31 hM, rMK32 hM, rMK33 hM, rMK34 hM, rMK35 hM, rMK36 hM, rMK37 hM, rMK38 hM, rMK39 hM, rMK40 hM, rMK41 hM, rMK42 hM, rMK43 hM, rMK44 hM, rMK45 hM, rMK46 hM, rMK47 hM, rMK48 hM, rMK49 hM, rMK50 hM, rMK51 hM, kMK0, kMK1, kMK2, kMK3, kMK4, kMK5, kMK6, kMK7, kMK8, kMK9, kMK10, kMK11, kMK12, kMK13, kMK14, kMK15, kMK16, kMK17, kMK18, kMK19, kMK20, kMK21, kMK22, kMK23, kMK24, kMK25, kMK26, kMK27, kMK28, kMK29, kMK30, kMK31, kMK32, kMK33, kMK34, kMK35, kMK36, kMK37, kMK38, kMK39, kMK40, kMK41, kMK42, kMK43, kMK44, kMK45, kMK46, kMK47, kMK48, kMK49, kMK50, kMK51, kMK52, kMK53, kMK54, kMK55, kMK56, kMK57, kMK58, kMK59, kMK60, kMK61, kMK62, kMK63, kMK64, kMK65, kMK66, kMK67, kMK68, kMK69, kMK70, kMK71, kMK72, kMK73, kMK74, kMK75, kMK76, kMK77, kMK78, kMK79, kMK80, kMK81, kMK82, kMK83, kMK84, kMK85, kMK86, kMK87, kMK88, kMK89, kMK90, kMK91, kMK92, kMK93, kMK94, kMK95, kMK96, kMK97, kMK98, kMK99, kMK100, kMK101, kMK102, kMK103, kMK104, y62, c1, c2, c0, zup_zpr, hy1, y139, y140, e2, e3, z1, and_self, if_true, if_false]
    · rw [tIn_s, if_pos r]
      by_cases e : u = k
      · rw [e]; exact t3
      · exact t4 u e (t2 u u0 (by omega)) (ok u u0 (by omega)).1.2
  · rw [if_neg r] at e2
    refine ⟨y2, ?_, m2, fun u u0 u1 => ?_⟩
    · rw [s300_11]
      simp only [s300_0, s300_1, s300_2, s300_5, s300_6, s300_9, s300_10, s300_12, s300_13, s300_16, s300_19, s300_20, s300_23, s300_24, s300_25, s300_26, s300_27, s300_28, s300_31, s300_32, s300_33, s300_34, s300_37, s300_38, s300_39, s300_42, s300_45, s300_46, s300_47, s300_50, s300_53, s300_56, s300_57, s300_59, s300_61, s300_64, s300_65, s300_66, s300_67, s300_69, s300_70, s300_73, s300_76, s300_77, s300_80, s300_81, s300_82, s300_85, s300_86, s300_87, s300_90, s300_91, s300_92, s300_95, s300_97, s300_98, s300_99, s300_102, s300_103, s300_104, s300_105, s300_108, s300_109, s300_110, s300_113, s300_116, s300_117, s300_120, s300_121, s300_124, s300_125, s300_126, s300_127, s300_129, s300_132, s300_133, s300_134, s300_137, s300_138, s300_139, s300_142, s300_145, s300_146, s300_149, s300_150, s300_151, s300_154, s300_157, s300_159, zps_0, zps_1, zps_2, zps_3, zps_9, Option.bind_some, Option.bind_none, Int.reduceEq, Int.reduceNe, Int.reduceLT, Int.reduceLE, Int.reduceNeg, Int.reduceAdd, Int.reduceSub, Int.reduceMul, reduceIte, if_true, if_false, true_and, and_true, false_and, and_false, or_true, true_or, or_false, false_or, not_true_eq_false, not_false_eq_true, ite_not, z_b0, z_b1, z_b01, rMK0 hM, rMK1 hM, rMK2 hM, rMK3 hM, rMK4 hM, rMK5 hM, rMK6 hM, rMK7 hM, rMK8 hM, rMK9 hM, rMK10 hM, rMK11 hM, rMK12 hM, rMK13 hM, rMK14 hM, rMK15 hM, rMK16 hM, rMK17 hM, rMK18 hM, rMK19 hM, rMK20 hM, rMK21 hM, rMK22 hM, rMK23 hM, rMK24 hM, rMK25 hM, rMK26 hM, rMK27 hM, rMK28 hM, rMK29 hM, rMK30 hM, rMK31 hM, rMK32 hM, rMK33 hM, rMK34 hM, rMK35 hM, rMK36 hM, rMK37 hM, rMK38 hM, rMK39 hM, rMK40 hM, rMK41 hM, rMK42 hM, rMK43 hM, rMK44 hM, rMK45 hM, rMK46 hM, rMK47 hM, rMK48 hM, rMK49 hM, rMK50 hM, rMK51 hM, kMK0, kMK1, kMK2, kMK3, kMK4, kMK5, kMK6, kMK7, kMK8, kMK9, kMK10, kMK11, kMK12, kMK13, kMK14, kMK15, kMK16, kMK17, kMK18, kMK19, kMK20, kMK21, kMK22, kMK23, kMK24, kMK25, kMK26, kMK27, kMK28, kMK29, kMK30, kMK31, kMK32, kMK33, kMK34, kMK35, kMK36, kMK37, kMK38, kMK39, kMK40, kMK41, kMK42, kMK43, kMK44, kMK45, kMK46, kMK47, kMK48, kMK49, kMK50, kMK51, kMK52, kMK53, kMK54, kMK55, kMK56, kMK57, kMK58, kMK59, kMK60, kMK61, kMK62, kMK63, kMK64, kMK65, kMK66, kMK67, kMK68, kMK69, kMK70, kMK71, kMK72, kMK73, kMK74, kMK75, kMK76, kMK77, kMK78, kMK79, kMK80, kMK81, kMK82, kMK83, kMK84, kMK85, kMK86, kMK87, kMK88, kMK89, kMK90, kMK91, kMK92, kMK93, kMK94, kMK95, kMK96, kMK97, kMK98, kMK99, kMK100, kMK101, kMK102, kMK103, kMK104, y62, c1, c2, c0, zup_zpr, hy1, y139, y140, e2, z1, and_self, if_true, if_false]
    · rw [tIn_s, if_neg r]
      by_cases e : u = k
      · subst e
        unfold TMw
        dsimp only
        rw [zrw_at]
        refine ⟨?_, fun i i0 i1 => by omega⟩
        rw [g2 141 (by decide) (by decide), ← hy1, zpr_at, zrw_at]
      · have := t2 u u0 (by omega)
        unfold TMw at *
        dsimp only
        rw [zrw_ne e]
        exact this
theorem tz_mlt2 (hM : MK R) (hV : MV w) (hF : TFt w n) (hn8 : n ≤ 8) (h62 : w 100 62 = n) {S : zTS × Bool} (hm : MTs w y n S.1) {k : Nat} (hk : k < n) (r0 : Int) (l4 : zV) : ∃ (y' : zM) (l4' : zV), ev 300 68 [(2, 100), (0, r0), (0, if S.2 = true then 1 else 0), (0, (k : Int)), l4] [] R y = ev 300 68 [(2, 100), (0, r0), (0, if (tS1 w n k S).2 = true then 1 else 0), (0, ((k + 1 : Nat) : Int)), l4'] [] R y' ∧ MTs w y' n (tS1 w n k S).1 := by
  obtain ⟨hq, h56, hT⟩ := hm
  have F := hF k (by omega) (by omega)
  have c0 : 0 ≤ (k : Int) ∧ (k : Int) < 8 := by omega
  have c1 : (k : Int) < n := by omega
  have c2 : ¬ (n : Int) ≤ k := by omega
  have y62 : y 100 62 = n := by rw [hq.2 62 (by decide) (by decide)]; exact h62
  have z1 : zw ((k : Int) + 1) = ((k + 1 : Nat) : Int) := by rw [zw_i (by omega) (by omega)]; rfl
  have h1 := (hT k (by omega) (by omega)).1.1
  have ok := (hT k (by omega) (by omega)).2
  by_cases r : 0 < S.1.1 k
  · have r' : ¬ S.1.1 k ≤ 0 := by omega
    obtain ⟨g, e1, hg⟩ := tz_mlayCrowd (R := R) hM hn8 y62 hT k
    have cb : ∀ e : Int, 0 ≤ tCw S.1 n k e ∧ tCw S.1 n k e ≤ 1000 := fun e => tCw_b hn8 (fun t t0 t1 => (hT t t0 t1).2) k e
    have m1 : MMs w (zpr y 135 g) (tCw S.1 n k) := ⟨QM_tr hq (QM_zpr _ _ (by omega)), by rw [zpr_ne (by decide)]; exact h56, fun e e0 e1 => by rw [zpr_at]; exact ⟨hg e e0 e1, cb e⟩⟩
    have TB := tz_mtakenBy (R := R) hM hV m1 c0 (TMw_c (zpr_ne (by decide)) (zpr_ne (by decide)) (hT k (by omega) (by omega)).1) ok
    have tkb := tTk_b hV (MMs_c m1) ok
    obtain ⟨y2, e2, m2, d2, g2⟩ := tz_mlayW2 (R := R) hM hV m1 F.1 F.2
    have y139 : zpr y 135 g 139 k = w 139 k := by rw [m1.1.1 139 (by decide) (by decide) (by decide) (by decide)]
    have y140 : zpr y 135 g 140 k = w 140 k := by rw [m1.1.1 140 (by decide) (by decide) (by decide) (by decide)]
    have w139 : y2 139 k = w 139 k := by rw [m2.1.1 139 (by decide) (by decide) (by decide) (by decide)]
    have da := d2 (w 139 k) F.1.1 (by omega)
    have ca : 0 ≤ w 139 k ∧ w 139 k < 88 := by omega
    have t2 : ∀ u : Int, 0 ≤ u → u < n → TMw y2 S.1 u ∧ TOt w S.1 u := fun u u0 u1 => ⟨TMw_c (by rw [g2 141 (by decide) (by decide), zpr_ne (by decide)]) (by rw [g2 142 (by decide) (by decide), zpr_ne (by decide)]) (hT u u0 u1).1, (hT u u0 u1).2⟩
    by_cases r2 : pD (wX w (tCw S.1 n k)) (w 140 k) (w 139 k) < tTk (wX w (tCw S.1 n k)) S.1 k
    · have eS : tS1 w n k S = (tGo (wX w (tCw S.1 n k)) (w 139 k) (w 140 k) k S.1, true) := by
        unfold tS1
        rw [if_pos ⟨r, r2⟩]
      have rD : pD (wX w (tCw S.1 n k)) (w 140 k) (w 139 k) < 1000000 := by omega
      rw [if_pos rD] at e2
      have r3 : ¬ tTk (wX w (tCw S.1 n k)) S.1 k ≤ pD (wX w (tCw S.1 n k)) (w 140 k) (w 139 k) := by omega
      obtain ⟨z, e3, m3, t3, t4⟩ := tz_mgoT (R := R) hM hV m2 c0 F.1 F.2 d2 rD S.1
      have ne := fun u (h : u ≠ (k : Int)) => tGo_ne (wX w (tCw S.1 n k)) (a := w 139 k) (b := w 140 k) (t := k) (u := u) S.1 (tGo_f hV (MMs_c m1) F.1 F.2 rD).1 h
      refine ⟨z, (0, tTk (wX w (tCw S.1 n k)) S.1 k), ?_, m3.1, m3.2.1, fun u u0 u1 => ?_⟩
      · rw [eS, s300_68]
        simp only [s300_0, s300_1, s300_2, s300_5, s300_6, s300_9, s300_10, s300_12, s300_13, s300_16, s300_19, s300_20, s300_23, s300_24, s300_25, s300_26, s300_27, s300_28, s300_31, s300_32, s300_33, s300_34, s300_37, s300_38, s300_39, s300_42, s300_45, s300_46, s300_47, s300_50, s300_53, s300_56, s300_57, s300_59, s300_61, s300_64, s300_65, s300_66, s300_67, s300_69, s300_70, s300_73, s300_76, s300_77, s300_80, s300_81, s300_82, s300_85, s300_86, s300_87, s300_90, s300_91, s300_92, s300_95, s300_97, s300_98, s300_99, s300_102, s300_103, s300_104, s300_105, s300_108, s300_109, s300_110, s300_113, s300_116, s300_117, s300_120, s300_121, s300_124, s300_125, s300_126, s300_127, s300_129, s300_132, s300_133, s300_134, s300_137, s300_138, s300_139, s300_142, s300_145, s300_146, s300_149, s300_150, s300_151, s300_154, s300_157, s300_159, zps_0, zps_1, zps_2, zps_3, zps_9, Option.bind_some, Option.bind_none, Int.reduceEq, Int.reduceNe, Int.reduceLT, Int.reduceLE, Int.reduceNeg, Int.reduceAdd, Int.reduceSub, Int.reduceMul, reduceIte, if_true, if_false, true_and, and_true, false_and, and_false, or_true, true_or, or_false, false_or, not_true_eq_false, not_false_eq_true, ite_not, z_b0, z_b1, z_b01, rMK0 hM, rMK1 hM, rMK2 hM, rMK3 hM, rMK4 hM, rMK5 hM, rMK6 hM, rMK7 hM, rMK8 hM, rMK9 hM, rMK10 hM, rMK11 hM, rMK12 hM, rMK13 hM, rMK14 hM, rMK15 hM, rMK16 hM, rMK17 hM, rMK18 hM, rMK19 hM, rMK20 hM, rMK21 hM, rMK22 hM, rMK23 hM, rMK24 hM, rMK25 hM, rMK26 hM, rMK27 hM, rMK28 hM, rMK29 hM, rMK30 hM, rMK31 hM, rMK32 hM, rMK33 hM, rMK34 hM, rMK35 hM, rMK36 hM, rMK37 hM, rMK38 hM, rMK39 hM, rMK40 hM, rMK41 hM, rMK42 hM, rMK43 hM, rMK44 hM, rMK45 hM, rMK46 hM, rMK47 hM, rMK48 hM, rMK49 hM, rMK50 hM, rMK51 hM, kMK0, kMK1, kMK2, kMK3, kMK4, kMK5, kMK6, kMK7, kMK8, kMK9, kMK10, kMK11, kMK12, kMK13, kMK14, kMK15, kMK16, kMK17, kMK18, kMK19, kMK20, kMK21, kMK22, kMK23, kMK24, kMK25, kMK26, kMK27, kMK28, kMK29, kMK30, kMK31, kMK32, kMK33, kMK34, kMK35, kMK36, kMK37, kMK38, kMK39, kMK40, kMK41, kMK42, kMK43, kMK44, kMK45, kMK46, kMK47, kMK48, kMK49, kMK50, kMK51, kMK52, kMK53, kMK54, kMK55, kMK56, kMK57, kMK58, kMK59, kMK60, kMK61, kMK62, kMK63, kMK64, kMK65, kMK66, kMK67, kMK68, kMK69, kMK70, kMK71, kMK72, kMK73, kMK74, kMK75, kMK76, kMK77, kMK78, kMK79, kMK80, kMK81, kMK82, kMK83, kMK84, kMK85, kMK86, kMK87, kMK88, kMK89, kMK90, kMK91, kMK92, kMK93, kMK94, kMK95, kMK96, kMK97, kMK98, kMK99, kMK100, kMK101, kMK102, kMK103, kMK104, y62, c1, c2, c0, h1, r, r', e1, TB, y139, y140, e2, w139, ca, da, r3, e3, z1, and_self, if_true, if_false]
      · rw [eS]
        dsimp only
        by_cases e : u = k
        · subst e; exact ⟨t3, tGo_ok hV (MMs_c m1) F.1 F.2 rD _ _⟩
        · have b4 := (hT u u0 u1).2
          exact ⟨t4 u e (t2 u u0 u1).1 b4.1.2, TOt_c (ne u e).1 (fun i i0 i1 => (ne u e).2 i i0 (by have := b4.1.2; omega)) b4⟩
    · have eS : tS1 w n k S = S := by
        unfold tS1
        rw [if_neg (fun q => r2 q.2)]
      have r3 : tTk (wX w (tCw S.1 n k)) S.1 k ≤ pD (wX w (tCw S.1 n k)) (w 140 k) (w 139 k) := by omega
      refine ⟨y2, (0, tTk (wX w (tCw S.1 n k)) S.1 k), ?_, ?_⟩
      · rw [eS, s300_68]
        by_cases rD : pD (wX w (tCw S.1 n k)) (w 140 k) (w 139 k) < 1000000
        · rw [if_pos rD] at e2
          simp only [s300_0, s300_1, s300_2, s300_5, s300_6, s300_9, s300_10, s300_12, s300_13, s300_16, s300_19, s300_20, s300_23, s300_24, s300_25, s300_26, s300_27, s300_28, s300_31, s300_32, s300_33, s300_34, s300_37, s300_38, s300_39, s300_42, s300_45, s300_46, s300_47, s300_50, s300_53, s300_56, s300_57, s300_59, s300_61, s300_64, s300_65, s300_66, s300_67, s300_69, s300_70, s300_73, s300_76, s300_77, s300_80, s300_81, s300_82, s300_85, s300_86, s300_87, s300_90, s300_91, s300_92, s300_95, s300_97, s300_98, s300_99, s300_102, s300_103, s300_104, s300_105, s300_108, s300_109, s300_110, s300_113, s300_116, s300_117, s300_120, s300_121, s300_124, s300_125, s300_126, s300_127, s300_129, s300_132, s300_133, s300_134, s300_137, s300_138, s300_139, s300_142, s300_145, s300_146, s300_149, s300_150, s300_151, s300_154, s300_157, s300_159, zps_0, zps_1, zps_2, zps_3, zps_9, Option.bind_some, Option.bind_none, Int.reduceEq, Int.reduceNe, Int.reduceLT, Int.reduceLE, Int.reduceNeg, Int.reduceAdd, Int.reduceSub, Int.reduceMul, reduceIte, if_true, if_false, true_and, and_true, false_and, and_false, or_true, true_or, or_false, false_or, not_true_eq_false, not_false_eq_true, ite_not, z_b0, z_b1, z_b01, rMK0 hM, rMK1 hM, rMK2 hM, rMK3 hM, rMK4 hM, rMK5 hM, rMK6 hM, rMK7 hM, rMK8 hM, rMK9 hM, rMK10 hM, rMK11 hM, rMK12 hM, rMK13 hM, rMK14 hM, rMK15 hM, rMK16 hM, rMK17 hM, rMK18 hM, rMK19 hM, rMK20 hM, rMK21 hM, rMK22 hM, rMK23 hM, rMK24 hM, rMK25 hM, rMK26 hM, rMK27 hM, rMK28 hM, rMK29 hM, rMK30 hM, rMK31 hM, rMK32 hM, rMK33 hM, rMK34 hM, rMK35 hM, rMK36 hM, rMK37 hM, rMK38 hM, rMK39 hM, rMK40 hM, rMK41 hM, rMK42 hM, rMK43 hM, rMK44 hM, rMK45 hM, rMK46 hM, rMK47 hM, rMK48 hM, rMK49 hM, rMK50 hM, rMK51 hM, kMK0, kMK1, kMK2, kMK3, kMK4, kMK5, kMK6, kMK7, kMK8, kMK9, kMK10, kMK11, kMK12, kMK13, kMK14, kMK15, kMK16, kMK17, kMK18, kMK19, kMK20, kMK21, kMK22, kMK23, kMK24, kMK25, kMK26, kMK27, kMK28, kMK29, kMK30, kMK31, kMK32, kMK33, kMK34, kMK35, kMK36, kMK37, kMK38, kMK39, kMK40, kMK41, kMK42, kMK43, kMK44, kMK45, kMK46, kMK47, kMK48, kMK49, kMK50, kMK51, kMK52, kMK53, kMK54, kMK55, kMK56, kMK57, kMK58, kMK59, kMK60, kMK61, kMK62, kMK63, kMK64, kMK65, kMK66, kMK67, kMK68, kMK69, kMK70, kMK71, kMK72, kMK73, kMK74, kMK75, kMK76, kMK77, kMK78, kMK79, kMK80, kMK81, kMK82, kMK83, kMK84, kMK85, kMK86, kMK87, kMK88, kMK89, kMK90, kMK91, kMK92, kMK93, kMK94, kMK95, kMK96, kMK97, kMK98, kMK99, kMK100, kMK101, kMK102, kMK103, kMK104, y62, c1, c2, c0, h1, r, r', e1, TB, y139, y140, e2, w139, ca, da, r3, z1, and_self, if_true, if_false]
        · rw [if_neg rD] at e2
          simp only [s300_0, s300_1, s300_2, s300_5, s300_6, s300_9, s300_10, s300_12, s300_13, s300_16, s300_19, s300_20, s300_23, s300_24, s300_25, s300_26, s300_27, s300_28, s300_31, s300_32, s300_33, s300_34, s300_37, s300_38, s300_39, s300_42, s300_45, s300_46, s300_47, s300_50, s300_53, s300_56, s300_57, s300_59, s300_61, s300_64, s300_65, s300_66, s300_67, s300_69, s300_70, s300_73, s300_76, s300_77, s300_80, s300_81, s300_82, s300_85, s300_86, s300_87, s300_90, s300_91, s300_92, s300_95, s300_97, s300_98, s300_99, s300_102, s300_103, s300_104, s300_105, s300_108, s300_109, s300_110, s300_113, s300_116, s300_117, s300_120, s300_121, s300_124, s300_125, s300_126, s300_127, s300_129, s300_132, s300_133, s300_134, s300_137, s300_138, s300_139, s300_142, s300_145, s300_146, s300_149, s300_150, s300_151, s300_154, s300_157, s300_159, zps_0, zps_1, zps_2, zps_3, zps_9, Option.bind_some, Option.bind_none, Int.reduceEq, Int.reduceNe, Int.reduceLT, Int.reduceLE, Int.reduceNeg, Int.reduceAdd, Int.reduceSub, Int.reduceMul, reduceIte, if_true, if_false, true_and, and_true, false_and, and_false, or_true, true_or, or_false, false_or, not_true_eq_false, not_false_eq_true, ite_not, z_b0, z_b1, z_b01, rMK0 hM, rMK1 hM, rMK2 hM, rMK3 hM, rMK4 hM, rMK5 hM, rMK6 hM, rMK7 hM, rMK8 hM, rMK9 hM, rMK10 hM, rMK11 hM, rMK12 hM, rMK13 hM, rMK14 hM, rMK15 hM, rMK16 hM, rMK17 hM, rMK18 hM, rMK19 hM, rMK20 hM, rMK21 hM, rMK22 hM, rMK23 hM, rMK24 hM, rMK25 hM, rMK26 hM, rMK27 hM, rMK28 hM, rMK29 hM, rMK30 hM, rMK31 hM, rMK32 hM, rMK33 hM, rMK34 hM, rMK35 hM, rMK36 hM, rMK37 hM, rMK38 hM, rMK39 hM, rMK40 hM, rMK41 hM, rMK42 hM, rMK43 hM, rMK44 hM, rMK45 hM, rMK46 hM, rMK47 hM, rMK48 hM, rMK49 hM, rMK50 hM, rMK51 hM, kMK0, kMK1, kMK2, kMK3, kMK4, kMK5, kMK6, kMK7, kMK8, kMK9, kMK10, kMK11, kMK12, kMK13, kMK14, kMK15, kMK16, kMK17, kMK18, kMK19, kMK20, kMK21, kMK22, kMK23, kMK24, kMK25, kMK26, kMK27, kMK28, kMK29, kMK30, kMK31, kMK32, kMK33, kMK34, kMK35, kMK36, kMK37, kMK38, kMK39, kMK40, kMK41, kMK42, kMK43, kMK44, kMK45, kMK46, kMK47, kMK48, kMK49, kMK50, kMK51, kMK52, kMK53, kMK54, kMK55, kMK56, kMK57, kMK58, kMK59, kMK60, kMK61, kMK62, kMK63, kMK64, kMK65, kMK66, kMK67, kMK68, kMK69, kMK70, kMK71, kMK72, kMK73, kMK74, kMK75, kMK76, kMK77, kMK78, kMK79, kMK80, kMK81, kMK82, kMK83, kMK84, kMK85, kMK86, kMK87, kMK88, kMK89, kMK90, kMK91, kMK92, kMK93, kMK94, kMK95, kMK96, kMK97, kMK98, kMK99, kMK100, kMK101, kMK102, kMK103, kMK104, y62, c1, c2, c0, h1, r, r', e1, TB, y139, y140, e2, z1, and_self, if_true, if_false]
      · rw [eS]; exact ⟨m2.1, m2.2.1, t2⟩
  · have r' : S.1.1 k ≤ 0 := by omega
    have eS : tS1 w n k S = S := by unfold tS1; rw [if_neg (fun q => r q.1)]
    refine ⟨y, l4, ?_, ?_⟩
    · rw [eS, s300_68]
      simp only [s300_0, s300_1, s300_2, s300_5, s300_6, s300_9, s300_10, s300_12, s300_13, s300_16, s300_19, s300_20, s300_23, s300_24, s300_25, s300_26, s300_27, s300_28, s300_31, s300_32, s300_33, s300_34, s300_37, s300_38, s300_39, s300_42, s300_45, s300_46, s300_47, s300_50, s300_53, s300_56, s300_57, s300_59, s300_61, s300_64, s300_65, s300_66, s300_67, s300_69, s300_70, s300_73, s300_76, s300_77, s300_80, s300_81, s300_82, s300_85, s300_86, s300_87, s300_90, s300_91, s300_92, s300_95, s300_97, s300_98, s300_99, s300_102, s300_103, s300_104, s300_105, s300_108, s300_109, s300_110, s300_113, s300_116, s300_117, s300_120, s300_121, s300_124, s300_125, s300_126, s300_127, s300_129, s300_132, s300_133, s300_134, s300_137, s300_138, s300_139, s300_142, s300_145, s300_146, s300_149, s300_150, s300_151, s300_154, s300_157, s300_159, zps_0, zps_1, zps_2, zps_3, zps_9, Option.bind_some, Option.bind_none, Int.reduceEq, Int.reduceNe, Int.reduceLT, Int.reduceLE, Int.reduceNeg, Int.reduceAdd, Int.reduceSub, Int.reduceMul, reduceIte, if_true, if_false, true_and, and_true, false_and, and_false, or_true, true_or, or_false, false_or, not_true_eq_false, not_false_eq_true, ite_not, z_b0, z_b1, z_b01, rMK0 hM, rMK1 hM, rMK2 hM, rMK3 hM, rMK4 hM, rMK5 hM, rMK6 hM, rMK7 hM, rMK8 hM, rMK9 hM, rMK10 hM, rMK11 hM, rMK12 hM, rMK13 hM, rMK14 hM, rMK15 hM, rMK16 hM, rMK17 hM, rMK18 hM, rMK19 hM, rMK20 hM, rMK21 hM, rMK22 hM, rMK23 hM, rMK24 hM, rMK25 hM, rMK26 hM, rMK27 hM, rMK28 hM, rMK29 hM, rMK30 hM, rMK31 hM, rMK32 hM, rMK33 hM, rMK34 hM, rMK35 hM, rMK36 hM, rMK37 hM, rMK38 hM, rMK39 hM, rMK40 hM, rMK41 hM, rMK42 hM, rMK43 hM, rMK44 hM, rMK45 hM, rMK46 hM, rMK47 hM, rMK48 hM, rMK49 hM, rMK50 hM, rMK51 hM, kMK0, kMK1, kMK2, kMK3, kMK4, kMK5, kMK6, kMK7, kMK8, kMK9, kMK10, kMK11, kMK12, kMK13, kMK14, kMK15, kMK16, kMK17, kMK18, kMK19, kMK20, kMK21, kMK22, kMK23, kMK24, kMK25, kMK26, kMK27, kMK28, kMK29, kMK30, kMK31, kMK32, kMK33, kMK34, kMK35, kMK36, kMK37, kMK38, kMK39, kMK40, kMK41, kMK42, kMK43, kMK44, kMK45, kMK46, kMK47, kMK48, kMK49, kMK50, kMK51, kMK52, kMK53, kMK54, kMK55, kMK56, kMK57, kMK58, kMK59, kMK60, kMK61, kMK62, kMK63, kMK64, kMK65, kMK66, kMK67, kMK68, kMK69, kMK70, kMK71, kMK72, kMK73, kMK74, kMK75, kMK76, kMK77, kMK78, kMK79, kMK80, kMK81, kMK82, kMK83, kMK84, kMK85, kMK86, kMK87, kMK88, kMK89, kMK90, kMK91, kMK92, kMK93, kMK94, kMK95, kMK96, kMK97, kMK98, kMK99, kMK100, kMK101, kMK102, kMK103, kMK104, y62, c1, c2, c0, h1, r, r', z1, and_self, if_true, if_false]
    · rw [eS]; exact ⟨hq, h56, hT⟩
theorem tz_mltR (hM : MK R) (hV : MV w) (hF : TFt w n) (hn8 : n ≤ 8) (h62 : w 100 62 = n) (k : Nat) : ∀ (y : zM) (T : zTS) (l2 l3 l4 : zV), k ≤ 40 → MTs w y n T → ∃ y' : zM, ev 300 58 [(2, 100), (0, 41 - (k : Int)), l2, l3, l4] [] R y = some ((0, if (tRs w n k (40 - (k : Int)) T).2.1 = true then -6 else (tRs w n k (40 - (k : Int)) T).1), R, y') ∧ MTs w y' n (tRs w n k (40 - (k : Int)) T).2.2 := by
  induction k with
  | zero =>
    intro y T l2 l3 l4 _ hm
    refine ⟨y, ?_, hm⟩
    rw [s300_58]
    have e : (41 : Int) - ((0 : Nat) : Int) = 41 := rfl
    simp only [s300_0, s300_1, s300_2, s300_5, s300_6, s300_9, s300_10, s300_12, s300_13, s300_16, s300_19, s300_20, s300_23, s300_24, s300_25, s300_26, s300_27, s300_28, s300_31, s300_32, s300_33, s300_34, s300_37, s300_38, s300_39, s300_42, s300_45, s300_46, s300_47, s300_50, s300_53, s300_56, s300_57, s300_59, s300_61, s300_64, s300_65, s300_66, s300_67, s300_69, s300_70, s300_73, s300_76, s300_77, s300_80, s300_81, s300_82, s300_85, s300_86, s300_87, s300_90, s300_91, s300_92, s300_95, s300_97, s300_98, s300_99, s300_102, s300_103, s300_104, s300_105, s300_108, s300_109, s300_110, s300_113, s300_116, s300_117, s300_120, s300_121, s300_124, s300_125, s300_126, s300_127, s300_129, s300_132, s300_133, s300_134, s300_137, s300_138, s300_139, s300_142, s300_145, s300_146, s300_149, s300_150, s300_151, s300_154, s300_157, s300_159, zps_0, zps_1, zps_2, zps_3, zps_9, Option.bind_some, Option.bind_none, Int.reduceEq, Int.reduceNe, Int.reduceLT, Int.reduceLE, Int.reduceNeg, Int.reduceAdd, Int.reduceSub, Int.reduceMul, reduceIte, if_true, if_false, true_and, and_true, false_and, and_false, or_true, true_or, or_false, false_or, not_true_eq_false, not_false_eq_true, ite_not, z_b0, z_b1, z_b01, e, tRs, if_true, if_false]
  | succ k ih =>
    intro y T l2 l3 l4 hk hm
    have c1 : ¬ (40 : Int) < 41 - ((k + 1 : Nat) : Int) := by omega
    have c2 : 41 - ((k + 1 : Nat) : Int) ≤ 40 := by omega
    have L0 : ev 300 58 [(2, 100), (0, 41 - ((k + 1 : Nat) : Int)), l2, l3, l4] [] R y = ev 300 68 [(2, 100), (0, 41 - ((k + 1 : Nat) : Int)), (0, 0), (0, 0), l4] [] R y := by
      rw [s300_58]
      simp only [s300_0, s300_1, s300_2, s300_5, s300_6, s300_9, s300_10, s300_12, s300_13, s300_16, s300_19, s300_20, s300_23, s300_24, s300_25, s300_26, s300_27, s300_28, s300_31, s300_32, s300_33, s300_34, s300_37, s300_38, s300_39, s300_42, s300_45, s300_46, s300_47, s300_50, s300_53, s300_56, s300_57, s300_59, s300_61, s300_64, s300_65, s300_66, s300_67, s300_69, s300_70, s300_73, s300_76, s300_77, s300_80, s300_81, s300_82, s300_85, s300_86, s300_87, s300_90, s300_91, s300_92, s300_95, s300_97, s300_98, s300_99, s300_102, s300_103, s300_104, s300_105, s300_108, s300_109, s300_110, s300_113, s300_116, s300_117, s300_120, s300_121, s300_124, s300_125, s300_126, s300_127, s300_129, s300_132, s300_133, s300_134, s300_137, s300_138, s300_139, s300_142, s300_145, s300_146, s300_149, s300_150, s300_151, s300_154, s300_157, s300_159, zps_0, zps_1, zps_2, zps_3, zps_9, Option.bind_some, Option.bind_none, Int.reduceEq, Int.reduceNe, Int.reduceLT, Int.reduceLE, Int.reduceNeg, Int.reduceAdd, Int.reduceSub, Int.reduceMul, reduceIte, if_true, if_false, true_and, and_true, false_and, and_false, or_true, true_or, or_false, false_or, not_true_eq_false, not_false_eq_true, ite_not, z_b0, z_b1, z_b01, c1, c2, if_true, if_false]
    have key : ∀ j : Nat, j ≤ n → ∃ (y' : zM) (l4' : zV), ev 300 68 [(2, 100), (0, 41 - ((k + 1 : Nat) : Int)), (0, 0), (0, 0), l4] [] R y = ev 300 68 [(2, 100), (0, 41 - ((k + 1 : Nat) : Int)), (0, if (tRd w n T j).2 = true then 1 else 0), (0, (j : Int)), l4'] [] R y' ∧ MTs w y' n (tRd w n T j).1 := by
      intro j
      induction j with
      | zero => intro _; exact ⟨y, l4, rfl, hm⟩
      | succ j ihj =>
        intro hj
        obtain ⟨y1, l4', e1, m1⟩ := ihj (by omega)
        obtain ⟨y2, l4'', e2, m2⟩ := tz_mlt2 (R := R) hM hV hF hn8 h62 m1 (k := j) (by omega) (41 - ((k + 1 : Nat) : Int)) l4'
        exact ⟨y2, l4'', e1.trans e2, m2⟩
    obtain ⟨y1, l4', e1, m1⟩ := key n (Nat.le_refl _)
    have y62 : y1 100 62 = n := by rw [m1.1.2 62 (by decide) (by decide)]; exact h62
    have z1 : zw (41 - ((k + 1 : Nat) : Int) + 1) = 41 - (k : Int) := by rw [zw_i (by omega) (by omega)]; omega
    have er : 40 - ((k + 1 : Nat) : Int) + 1 = 40 - (k : Int) := by omega
    rw [L0, e1]
    by_cases hb : (tRd w n T n).2 = true
    · have eR : tRs w n (k + 1) (40 - ((k + 1 : Nat) : Int)) T = tRs w n k (40 - (k : Int)) (tRd w n T n).1 := by rw [tRs, if_pos hb, er]
      obtain ⟨y2, e2, m2⟩ := ih y1 (tRd w n T n).1 (0, 1) (0, (n : Int)) l4' (by omega) m1
      rw [eR]
      refine ⟨y2, ?_, m2⟩
      rw [if_pos hb, ← e2, s300_68]
      simp only [s300_0, s300_1, s300_2, s300_5, s300_6, s300_9, s300_10, s300_12, s300_13, s300_16, s300_19, s300_20, s300_23, s300_24, s300_25, s300_26, s300_27, s300_28, s300_31, s300_32, s300_33, s300_34, s300_37, s300_38, s300_39, s300_42, s300_45, s300_46, s300_47, s300_50, s300_53, s300_56, s300_57, s300_59, s300_61, s300_64, s300_65, s300_66, s300_67, s300_69, s300_70, s300_73, s300_76, s300_77, s300_80, s300_81, s300_82, s300_85, s300_86, s300_87, s300_90, s300_91, s300_92, s300_95, s300_97, s300_98, s300_99, s300_102, s300_103, s300_104, s300_105, s300_108, s300_109, s300_110, s300_113, s300_116, s300_117, s300_120, s300_121, s300_124, s300_125, s300_126, s300_127, s300_129, s300_132, s300_133, s300_134, s300_137, s300_138, s300_139, s300_142, s300_145, s300_146, s300_149, s300_150, s300_151, s300_154, s300_157, s300_159, zps_0, zps_1, zps_2, zps_3, zps_9, Option.bind_some, Option.bind_none, Int.reduceEq, Int.reduceNe, Int.reduceLT, Int.reduceLE, Int.reduceNeg, Int.reduceAdd, Int.reduceSub, Int.reduceMul, reduceIte, if_true, if_false, true_and, and_true, false_and, and_false, or_true, true_or, or_false, false_or, not_true_eq_false, not_false_eq_true, ite_not, z_b0, z_b1, z_b01, rMK0 hM, rMK1 hM, rMK2 hM, rMK3 hM, rMK4 hM, rMK5 hM, rMK6 hM, rMK7 hM, rMK8 hM, rMK9 hM, rMK10 hM, rMK11 hM, rMK12 hM, rMK13 hM, rMK14 hM, rMK15 hM, rMK16 hM, rMK17 hM, rMK18 hM, rMK19 hM, rMK20 hM, rMK21 hM, rMK22 hM, rMK23 hM, rMK24 hM, rMK25 hM, rMK26 hM, rMK27 hM, rMK28 hM, rMK29 hM, rMK30 hM, rMK31 hM, rMK32 hM, rMK33 hM, rMK34 hM, rMK35 hM, rMK36 hM, rMK37 hM, rMK38 hM, rMK39 hM, rMK40 hM, rMK41 hM, rMK42 hM, rMK43 hM, rMK44 hM, rMK45 hM, rMK46 hM, rMK47 hM, rMK48 hM, rMK49 hM, rMK50 hM, rMK51 hM, kMK0, kMK1, kMK2, kMK3, kMK4, kMK5, kMK6, kMK7, kMK8, kMK9, kMK10, kMK11, kMK12, kMK13, kMK14, kMK15, kMK16, kMK17, kMK18, kMK19, kMK20, kMK21, kMK22, kMK23, kMK24, kMK25, kMK26, kMK27, kMK28, kMK29, kMK30, kMK31, kMK32, kMK33, kMK34, kMK35, kMK36, kMK37, kMK38, kMK39, kMK40, kMK41, kMK42, kMK43, kMK44, kMK45, kMK46, kMK47, kMK48, kMK49, kMK50, kMK51, kMK52, kMK53, kMK54, kMK55, kMK56, kMK57, kMK58, kMK59, kMK60, kMK61, kMK62, kMK63, kMK64, kMK65, kMK66, kMK67, kMK68, kMK69, kMK70, kMK71, kMK72, kMK73, kMK74, kMK75, kMK76, kMK77, kMK78, kMK79, kMK80, kMK81, kMK82, kMK83, kMK84, kMK85, kMK86, kMK87, kMK88, kMK89, kMK90, kMK91, kMK92, kMK93, kMK94, kMK95, kMK96, kMK97, kMK98, kMK99, kMK100, kMK101, kMK102, kMK103, kMK104, y62, Int.le_refl, z1, if_true]
    · have eR : tRs w n (k + 1) (40 - ((k + 1 : Nat) : Int)) T = (40 - (k : Int), false, (tRd w n T n).1) := by rw [tRs, if_neg hb, er]
      rw [eR]
      refine ⟨y1, ?_, m1⟩
      have e2 : 41 - ((k + 1 : Nat) : Int) = 40 - (k : Int) := by omega
      rw [if_neg hb, s300_68, e2]
      simp only [s300_0, s300_1, s300_2, s300_5, s300_6, s300_9, s300_10, s300_12, s300_13, s300_16, s300_19, s300_20, s300_23, s300_24, s300_25, s300_26, s300_27, s300_28, s300_31, s300_32, s300_33, s300_34, s300_37, s300_38, s300_39, s300_42, s300_45, s300_46, s300_47, s300_50, s300_53, s300_56, s300_57, s300_59, s300_61, s300_64, s300_65, s300_66, s300_67, s300_69, s300_70, s300_73, s300_76, s300_77, s300_80, s300_81, s300_82, s300_85, s300_86, s300_87, s300_90, s300_91, s300_92, s300_95, s300_97, s300_98, s300_99, s300_102, s300_103, s300_104, s300_105, s300_108, s300_109, s300_110, s300_113, s300_116, s300_117, s300_120, s300_121, s300_124, s300_125, s300_126, s300_127, s300_129, s300_132, s300_133, s300_134, s300_137, s300_138, s300_139, s300_142, s300_145, s300_146, s300_149, s300_150, s300_151, s300_154, s300_157, s300_159, zps_0, zps_1, zps_2, zps_3, zps_9, Option.bind_some, Option.bind_none, Int.reduceEq, Int.reduceNe, Int.reduceLT, Int.reduceLE, Int.reduceNeg, Int.reduceAdd, Int.reduceSub, Int.reduceMul, reduceIte, if_true, if_false, true_and, and_true, false_and, and_false, or_true, true_or, or_false, false_or, not_true_eq_false, not_false_eq_true, ite_not, z_b0, z_b1, z_b01, rMK0 hM, rMK1 hM, rMK2 hM, rMK3 hM, rMK4 hM, rMK5 hM, rMK6 hM, rMK7 hM, rMK8 hM, rMK9 hM, rMK10 hM, rMK11 hM, rMK12 hM, rMK13 hM, rMK14 hM, rMK15 hM, rMK16 hM, rMK17 hM, rMK18 hM, rMK19 hM, rMK20 hM, rMK21 hM, rMK22 hM, rMK23 hM, rMK24 hM, rMK25 hM, rMK26 hM, rMK27 hM, rMK28 hM, rMK29 hM, rMK30 hM, rMK31 hM, rMK32 hM, rMK33 hM, rMK34 hM, rMK35 hM, rMK36 hM, rMK37 hM, rMK38 hM, rMK39 hM, rMK40 hM, rMK41 hM, rMK42 hM, rMK43 hM, rMK44 hM, rMK45 hM, rMK46 hM, rMK47 hM, rMK48 hM, rMK49 hM, rMK50 hM, rMK51 hM, kMK0, kMK1, kMK2, kMK3, kMK4, kMK5, kMK6, kMK7, kMK8, kMK9, kMK10, kMK11, kMK12, kMK13, kMK14, kMK15, kMK16, kMK17, kMK18, kMK19, kMK20, kMK21, kMK22, kMK23, kMK24, kMK25, kMK26, kMK27, kMK28, kMK29, kMK30, kMK31, kMK32, kMK33, kMK34, kMK35, kMK36, kMK37, kMK38, kMK39, kMK40, kMK41, kMK42, kMK43, kMK44, kMK45, kMK46, kMK47, kMK48, kMK49, kMK50, kMK51, kMK52, kMK53, kMK54, kMK55, kMK56, kMK57, kMK58, kMK59, kMK60, kMK61, kMK62, kMK63, kMK64, kMK65, kMK66, kMK67, kMK68, kMK69, kMK70, kMK71, kMK72, kMK73, kMK74, kMK75, kMK76, kMK77, kMK78, kMK79, kMK80, kMK81, kMK82, kMK83, kMK84, kMK85, kMK86, kMK87, kMK88, kMK89, kMK90, kMK91, kMK92, kMK93, kMK94, kMK95, kMK96, kMK97, kMK98, kMK99, kMK100, kMK101, kMK102, kMK103, kMK104, y62, Int.le_refl, if_true, if_false, Bool.false_eq_true]
theorem tz_mlayTrips (hM : MK R) (hV : MV w) (hF : TFt w n) (hn8 : n ≤ 8) (h62 : w 100 62 = n) : ∃ y : zM, ev 300 0 [(2, 100), (9, 0), (9, 0), (9, 0), (9, 0)] [] R w = some ((0, if (tRs w n 40 0 (tIn w n)).2.1 = true then -6 else (tRs w n 40 0 (tIn w n)).1), R, y) ∧ MTs w y n (tRs w n 40 0 (tIn w n)).2.2 := by
  have CC := tz_mclearC (R := R) (y := zpr w 100 (zrw (w 100) 56 0)) hM
  obtain ⟨y0, hy0⟩ : ∃ y0, zpr (zpr w 100 (zrw (w 100) 56 0)) 135 (zfll (zpr w 100 (zrw (w 100) 56 0) 135) 128 0) = y0 := ⟨_, rfl⟩
  rw [hy0] at CC
  have L0 : ev 300 0 [(2, 100), (9, 0), (9, 0), (9, 0), (9, 0)] [] R w = ev 300 11 [(2, 100), (0, 0), (9, 0), (9, 0), (9, 0)] [] R y0 := by
    simp only [s300_0, s300_1, s300_2, s300_5, s300_6, s300_9, s300_10, s300_12, s300_13, s300_16, s300_19, s300_20, s300_23, s300_24, s300_25, s300_26, s300_27, s300_28, s300_31, s300_32, s300_33, s300_34, s300_37, s300_38, s300_39, s300_42, s300_45, s300_46, s300_47, s300_50, s300_53, s300_56, s300_57, s300_59, s300_61, s300_64, s300_65, s300_66, s300_67, s300_69, s300_70, s300_73, s300_76, s300_77, s300_80, s300_81, s300_82, s300_85, s300_86, s300_87, s300_90, s300_91, s300_92, s300_95, s300_97, s300_98, s300_99, s300_102, s300_103, s300_104, s300_105, s300_108, s300_109, s300_110, s300_113, s300_116, s300_117, s300_120, s300_121, s300_124, s300_125, s300_126, s300_127, s300_129, s300_132, s300_133, s300_134, s300_137, s300_138, s300_139, s300_142, s300_145, s300_146, s300_149, s300_150, s300_151, s300_154, s300_157, s300_159, zps_0, zps_1, zps_2, zps_3, zps_9, Option.bind_some, Option.bind_none, Int.reduceEq, Int.reduceNe, Int.reduceLT, Int.reduceLE, Int.reduceNeg, Int.reduceAdd, Int.reduceSub, Int.reduceMul, reduceIte, if_true, if_false, true_and, and_true, false_and, and_false, or_true, true_or, or_false, false_or, not_true_eq_false, not_false_eq_true, ite_not, z_b0, z_b1, z_b01, rMK0 hM, rMK1 hM, rMK2 hM, rMK3 hM, rMK4 hM, rMK5 hM, rMK6 hM, rMK7 hM, rMK8 hM, rMK9 hM, rMK10 hM, rMK11 hM, rMK12 hM, rMK13 hM, rMK14 hM, rMK15 hM, rMK16 hM, rMK17 hM, rMK18 hM, rMK19 hM, rMK20 hM, rMK21 hM, rMK22 hM, rMK23 hM, rMK24 hM, rMK25 hM, rMK26 hM, rMK27 hM, rMK28 hM, rMK29 hM, rMK30 hM, rMK31 hM, rMK32 hM, rMK33 hM, rMK34 hM, rMK35 hM, rMK36 hM, rMK37 hM, rMK38 hM, rMK39 hM, rMK40 hM, rMK41 hM, rMK42 hM, rMK43 hM, rMK44 hM, rMK45 hM, rMK46 hM, rMK47 hM, rMK48 hM, rMK49 hM, rMK50 hM, rMK51 hM, kMK0, kMK1, kMK2, kMK3, kMK4, kMK5, kMK6, kMK7, kMK8, kMK9, kMK10, kMK11, kMK12, kMK13, kMK14, kMK15, kMK16, kMK17, kMK18, kMK19, kMK20, kMK21, kMK22, kMK23, kMK24, kMK25, kMK26, kMK27, kMK28, kMK29, kMK30, kMK31, kMK32, kMK33, kMK34, kMK35, kMK36, kMK37, kMK38, kMK39, kMK40, kMK41, kMK42, kMK43, kMK44, kMK45, kMK46, kMK47, kMK48, kMK49, kMK50, kMK51, kMK52, kMK53, kMK54, kMK55, kMK56, kMK57, kMK58, kMK59, kMK60, kMK61, kMK62, kMK63, kMK64, kMK65, kMK66, kMK67, kMK68, kMK69, kMK70, kMK71, kMK72, kMK73, kMK74, kMK75, kMK76, kMK77, kMK78, kMK79, kMK80, kMK81, kMK82, kMK83, kMK84, kMK85, kMK86, kMK87, kMK88, kMK89, kMK90, kMK91, kMK92, kMK93, kMK94, kMK95, kMK96, kMK97, kMK98, kMK99, kMK100, kMK101, kMK102, kMK103, kMK104, zup_zpr, CC]
  have m0 : MMs w y0 (fun _ => 0) := by
    refine ⟨⟨fun b b1 b2 b3 b4 => ?_, fun k k1 k2 => ?_⟩, ?_, fun e e0 e1 => ?_⟩
    · rw [← hy0, zpr_ne (by omega), zpr_ne b1]
    · rw [← hy0, zpr_ne (by decide), zpr_at, zrw_ne k1]
    · rw [← hy0, zpr_ne (by decide), zpr_at, zrw_at]
    · rw [← hy0, zpr_at, zfll_at ⟨e0, e1⟩]
      exact ⟨rfl, z0b e e0 e1⟩
  have key : ∀ k : Nat, k ≤ n → ∃ y : zM, ev 300 11 [(2, 100), (0, 0), (9, 0), (9, 0), (9, 0)] [] R y0 = ev 300 11 [(2, 100), (0, (k : Int)), (9, 0), (9, 0), (9, 0)] [] R y ∧ MMs w y (fun _ => 0) ∧ ∀ u : Int, 0 ≤ u → u < (k : Int) → TMw y (tIn w k) u := by
    intro k
    induction k with
    | zero => intro _; exact ⟨y0, rfl, m0, fun u u0 u1 => by omega⟩
    | succ k ih =>
      intro hk
      obtain ⟨y1, e1, m1, t1⟩ := ih (by omega)
      obtain ⟨y2, e2, m2, t2⟩ := tz_mlt1 (R := R) hM hV hF hn8 h62 m1 (k := k) (by omega) t1 (9, 0) (9, 0) (9, 0)
      exact ⟨y2, e1.trans e2, m2, t2⟩
  obtain ⟨y1, e1, m1, t1⟩ := key n (Nat.le_refl _)
  have y62 : y1 100 62 = n := by rw [m1.1.2 62 (by decide) (by decide)]; exact h62
  have L1 : ev 300 11 [(2, 100), (0, (n : Int)), (9, 0), (9, 0), (9, 0)] [] R y1 = ev 300 58 [(2, 100), (0, 1), (9, 0), (9, 0), (9, 0)] [] R y1 := by
    rw [s300_11]
    simp only [s300_0, s300_1, s300_2, s300_5, s300_6, s300_9, s300_10, s300_12, s300_13, s300_16, s300_19, s300_20, s300_23, s300_24, s300_25, s300_26, s300_27, s300_28, s300_31, s300_32, s300_33, s300_34, s300_37, s300_38, s300_39, s300_42, s300_45, s300_46, s300_47, s300_50, s300_53, s300_56, s300_57, s300_59, s300_61, s300_64, s300_65, s300_66, s300_67, s300_69, s300_70, s300_73, s300_76, s300_77, s300_80, s300_81, s300_82, s300_85, s300_86, s300_87, s300_90, s300_91, s300_92, s300_95, s300_97, s300_98, s300_99, s300_102, s300_103, s300_104, s300_105, s300_108, s300_109, s300_110, s300_113, s300_116, s300_117, s300_120, s300_121, s300_124, s300_125, s300_126, s300_127, s300_129, s300_132, s300_133, s300_134, s300_137, s300_138, s300_139, s300_142, s300_145, s300_146, s300_149, s300_150, s300_151, s300_154, s300_157, s300_159, zps_0, zps_1, zps_2, zps_3, zps_9, Option.bind_some, Option.bind_none, Int.reduceEq, Int.reduceNe, Int.reduceLT, Int.reduceLE, Int.reduceNeg, Int.reduceAdd, Int.reduceSub, Int.reduceMul, reduceIte, if_true, if_false, true_and, and_true, false_and, and_false, or_true, true_or, or_false, false_or, not_true_eq_false, not_false_eq_true, ite_not, z_b0, z_b1, z_b01, rMK0 hM, rMK1 hM, rMK2 hM, rMK3 hM, rMK4 hM, rMK5 hM, rMK6 hM, rMK7 hM, rMK8 hM, rMK9 hM, rMK10 hM, rMK11 hM, rMK12 hM, rMK13 hM, rMK14 hM, rMK15 hM, rMK16 hM, rMK17 hM, rMK18 hM, rMK19 hM, rMK20 hM, rMK21 hM, rMK22 hM, rMK23 hM, rMK24 hM, rMK25 hM, rMK26 hM, rMK27 hM, rMK28 hM, rMK29 hM, rMK30 hM, rMK31 hM, rMK32 hM, rMK33 hM, rMK34 hM, rMK35 hM, rMK36 hM, rMK37 hM, rMK38 hM, rMK39 hM, rMK40 hM, rMK41 hM, rMK42 hM, rMK43 hM, rMK44 hM, rMK45 hM, rMK46 hM, rMK47 hM, rMK48 hM, rMK49 hM, rMK50 hM, rMK51 hM, kMK0, kMK1, kMK2, kMK3, kMK4, kMK5, kMK6, kMK7, kMK8, kMK9, kMK10, kMK11, kMK12, kMK13, kMK14, kMK15, kMK16, kMK17, kMK18, kMK19, kMK20, kMK21, kMK22, kMK23, kMK24, kMK25, kMK26, kMK27, kMK28, kMK29, kMK30, kMK31, kMK32, kMK33, kMK34, kMK35, kMK36, kMK37, kMK38, kMK39, kMK40, kMK41, kMK42, kMK43, kMK44, kMK45, kMK46, kMK47, kMK48, kMK49, kMK50, kMK51, kMK52, kMK53, kMK54, kMK55, kMK56, kMK57, kMK58, kMK59, kMK60, kMK61, kMK62, kMK63, kMK64, kMK65, kMK66, kMK67, kMK68, kMK69, kMK70, kMK71, kMK72, kMK73, kMK74, kMK75, kMK76, kMK77, kMK78, kMK79, kMK80, kMK81, kMK82, kMK83, kMK84, kMK85, kMK86, kMK87, kMK88, kMK89, kMK90, kMK91, kMK92, kMK93, kMK94, kMK95, kMK96, kMK97, kMK98, kMK99, kMK100, kMK101, kMK102, kMK103, kMK104, y62, Int.le_refl, if_true]
  have ok := tIn_ok hV hF n (Nat.le_refl _)
  obtain ⟨y2, e2, m2⟩ := tz_mltR (R := R) hM hV hF hn8 h62 40 y1 (tIn w n) (9, 0) (9, 0) (9, 0) (by omega) ⟨m1.1, m1.2.1, fun u u0 u1 => ⟨t1 u u0 u1, ok u u0 u1⟩⟩
  refine ⟨y2, ?_, m2⟩
  rw [L0, e1, L1]
  exact e2
end MTRIP3
