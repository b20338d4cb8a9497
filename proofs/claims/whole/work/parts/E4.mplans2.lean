/-! plans: the model chooses; both choose alike -/
def pSm (w : zM) (ln : Int) (L : Int → Int) (G U : Int → Int) : Int := zsow (mN w) (w 100 0) ln (w 100 6) G U L
def pBw (w : zM) (ln : Int) (L : Int → Int) (n : Nat) (B : Int) (k : Nat) : Int × Int := pBt (pSm w ln L) (w 143) (w 144) (w 145) (w 101) (w 103) n B k
section MPLANS2
variable {R w : zM} {s ln : Int} {n : Nat} {P Kd C G U L : Int → Int}
theorem pGU_b {N : Int} (hG : ∀ q, 0 ≤ q → q < N → (0 ≤ G q ∧ G q ≤ 2) ∧ 0 ≤ U q ∧ U q ≤ 3) (hK : ∀ k : Nat, k < n → 0 ≤ Kd k ∧ Kd k ≤ 3) : ∀ k : Nat, k ≤ n → ∀ q, 0 ≤ q → q < N → (0 ≤ (pGU P Kd G U s k).1 q ∧ (pGU P Kd G U s k).1 q ≤ 2) ∧ 0 ≤ (pGU P Kd G U s k).2 q ∧ (pGU P Kd G U s k).2 q ≤ 3 := by
  intro k
  induction k with
  | zero => intro _; exact hG
  | succ k ih =>
    intro hk q q0 q1
    have ih := ih (by omega) q q0 q1
    have kk := hK k (by omega)
    simp only [pGU]
    by_cases b : ybt s k = true
    · rw [if_pos b]
      dsimp only
      rw [zrw_if, zrw_if]
      by_cases e : q = P k
      · rw [if_pos e, if_pos e]
        refine ⟨?_, kk⟩
        split <;> omega
      · rw [if_neg e, if_neg e]; exact ih
    · rw [if_neg b]; exact ih
theorem pback (hcan : pCan P G U s n = true) : (pTO false P Kd (pGU P Kd G U s n).1 (pGU P Kd G U s n).2 s n).1 = G ∧ (pTO false P Kd (pGU P Kd G U s n).1 (pGU P Kd G U s n).2 s n).2 = U := by
  have can := pCan_iff.1 hcan
  have key : ∀ q, (pTO false P Kd (pGU P Kd G U s n).1 (pGU P Kd G U s n).2 s n).1 q = G q ∧ (pTO false P Kd (pGU P Kd G U s n).1 (pGU P Kd G U s n).2 s n).2 q = U q := by
    intro q
    obtain ⟨f1, f2⟩ := pTO_f (P := P) (Kd := Kd) (G := (pGU P Kd G U s n).1) (U := (pGU P Kd G U s n).2) (s := s) n q
    rw [f1, f2]
    by_cases a : zany (fun a => ybt s a && decide (P a = q)) n = true
    · obtain ⟨b, b0, b1, hb⟩ := (zany_iff _ _).1 a
      rw [Bool.and_eq_true] at hb
      have := can b.toNat (by omega)
      rw [show ((b.toNat : Nat) : Int) = b by omega] at this
      have f := (this hb.1).1
      rw [of_decide_eq_true hb.2] at f
      rw [if_pos a, if_pos a]
      exact ⟨f.1.symm, f.2.symm⟩
    · rw [if_neg a, if_neg a]
      exact pGU_out n (fun b hb hy e => a ((zany_iff _ _).2 ⟨b, by omega, by omega, by rw [hy, decide_eq_true e]; rfl⟩))
  exact ⟨funext fun q => (key q).1, funext fun q => (key q).2⟩
theorem tz_mchose1 (hM : MK R) (hV : MV w) (hL : ML w ln L) (h : PLm w n) (B a c : Int) {k : Nat} (hk : k + 1 < 2 ^ n) (l7 : zV) : ∃ l7' : zV, ev 307 43 [(2, 100), (0, B), (0, c), (0, (pBw w ln L n B k).1), (0, a), (0, (pBw w ln L n B k).2), (0, ((k + 1 : Nat) : Int)), l7] [] R w = ev 307 43 [(2, 100), (0, B), (0, c), (0, (pBw w ln L n B (k + 1)).1), (0, a), (0, (pBw w ln L n B (k + 1)).2), (0, ((k + 2 : Nat) : Int)), l7'] [] R w := by
  have h0 := h.1
  have h6 := h.2.1
  have hN := MV_n hV
  obtain ⟨w1, w2⟩ := pw_b h6
  have pw := pw_n h6
  obtain ⟨s, hs⟩ : ∃ s, ((k + 1 : Nat) : Int) = s := ⟨_, rfl⟩
  have hs2 : ((k : Int) + 1) = s := by rw [← hs]; rfl
  have c1 : s < ((2 ^ n : Nat) : Int) := by omega
  have c2 : ¬ ((2 ^ n : Nat) : Int) ≤ s := by omega
  have z1 : zw (s + 1) = ((k + 2 : Nat) : Int) := by rw [zw_i (by omega) (by omega)]; omega
  rw [hs]
  have CD := tz_mcanDo (R := R) (w := w) hM h hN.2 s
  have CO := tz_mcostOf (R := R) (w := w) hM h s
  have CB := tz_mcostOf (R := R) (w := w) hM h (pBw w ln L n B k).1
  obtain ⟨co, hco⟩ : ∃ co, pCo (w 145) s n = co := ⟨_, rfl⟩
  rw [hco] at CO
  obtain ⟨v, hv⟩ : ∃ v, pSm w ln L (pGU (w 143) (w 144) (w 101) (w 103) s n).1 (pGU (w 143) (w 144) (w 101) (w 103) s n).2 = v := ⟨_, rfl⟩
  have bm : pBw w ln L n B (k + 1) = if (co ≤ B ∧ pCan (w 143) (w 101) (w 103) s n = true) ∧ ((pBw w ln L n B k).2 < v ∨ ((pBw w ln L n B k).2 = v ∧ co < pCo (w 145) (pBw w ln L n B k).1 n)) then (s, v) else pBw w ln L n B k := by
    unfold pBw
    simp only [pBt]
    rw [hs2, hco, hv]
  generalize hbk : pBw w ln L n B k = bk at *
  by_cases b2 : pCan (w 143) (w 101) (w 103) s n = true
  · rw [if_pos b2] at CD
    by_cases b1 : co ≤ B
    · have b1' : ¬ B < co := by omega
      have T1 := tz_mtryOut (R := R) (w := w) hM h hN.2 (w 101) (w 103) s true
      rw [if_pos rfl, zpr_self, zpr_self, pTO_t] at T1
      obtain ⟨y, hy⟩ : ∃ y, zpr (zpr w 101 (pGU (w 143) (w 144) (w 101) (w 103) s n).1) 103 (pGU (w 143) (w 144) (w 101) (w 103) s n).2 = y := ⟨_, rfl⟩
      have yr : ∀ q, q ≠ 101 → q ≠ 103 → y q = w q := fun q q1 q2 => by rw [← hy, zpr_ne q2, zpr_ne q1]
      have y101 : y 101 = (pGU (w 143) (w 144) (w 101) (w 103) s n).1 := by rw [← hy, zpr_ne (by decide), zpr_at]
      have y103 : y 103 = (pGU (w 143) (w 144) (w 101) (w 103) s n).2 := by rw [← hy, zpr_at]
      rw [hy] at T1
      have yN : mN y = mN w := mN_e (by rw [yr 100 (by decide) (by decide)]) (by rw [yr 100 (by decide) (by decide)])
      have pb := pGU_b (P := w 143) (Kd := w 144) (G := w 101) (U := w 103) (s := s) (n := n) (N := mN w) (fun q q0 q1 => ⟨(hV.2.2 q q0 q1).1, (hV.2.2 q q0 q1).2.2⟩) (fun k hk => (h.2.2 k (by omega) (by omega)).2.1) n (Nat.le_refl _)
      have hVy : MV y := by
        refine ⟨by rw [yr 100 (by decide) (by decide)]; exact hV.1, by rw [yr 100 (by decide) (by decide)]; exact hV.2.1, fun p p0 p1 => ?_⟩
        rw [yN] at p1
        rw [y101, y103, yr 102 (by decide) (by decide)]
        exact ⟨(pb p p0 p1).1, (hV.2.2 p p0 p1).2.1, (pb p p0 p1).2⟩
      have hLy : ML y ln L := by
        unfold ML
        rw [yr 100 (by decide) (by decide), yr 105 (by decide) (by decide)]
        exact hL
      have AW := tz_mallWorth (R := R) (w := y) hM hVy hLy
      rw [yN, yr 100 (by decide) (by decide), y101, y103] at AW
      have eS : zsow (mN w) (w 100 0) ln (w 100 6) (pGU (w 143) (w 144) (w 101) (w 103) s n).1 (pGU (w 143) (w 144) (w 101) (w 103) s n).2 L = v := hv
      rw [eS] at AW
      have T2 := tz_mtryOut (R := R) (w := w) hM h hN.2 (pGU (w 143) (w 144) (w 101) (w 103) s n).1 (pGU (w 143) (w 144) (w 101) (w 103) s n).2 s false
      obtain ⟨pk1, pk2⟩ := pback (Kd := w 144) b2
      rw [if_neg (by decide), pk1, pk2, zpr_self, zpr_self, hy] at T2
      by_cases b3 : bk.2 < v ∨ (bk.2 = v ∧ co < pCo (w 145) bk.1 n)
      · have eb : pBw w ln L n B (k + 1) = (s, v) := by rw [bm, if_pos ⟨⟨b1, b2⟩, b3⟩]
        rw [eb]
        refine ⟨(0, v), ?_⟩
        rw [s307_43]
        rcases b3 with q | ⟨q, q2⟩
        · simp only [s307_0, s307_1, s307_2, s307_3, s307_6, s307_9, s307_12, s307_13, s307_14, s307_15, s307_18, s307_21, s307_24, s307_27, s307_28, s307_29, s307_30, s307_31, s307_34, s307_36, s307_38, s307_40, s307_41, s307_45, s307_46, s307_47, s307_50, s307_51, s307_54, s307_55, s307_57, s307_60, s307_63, s307_64, s307_66, s307_69, s307_70, s307_73, s307_74, s307_76, s307_77, s307_80, s307_81, s307_84, s307_86, s307_87, s307_89, s307_90, s307_93, s307_95, s307_97, s307_100, s307_102, s307_104, s307_107, s307_108, s307_110, s307_113, s307_114, s307_115, s307_118, s307_121, s307_123, s307_124, s307_126, s307_128, s307_131, s307_134, s307_135, s307_138, s307_139, s307_142, s307_143, s307_144, s307_147, s307_148, s307_149, s307_152, s307_155, s307_156, s307_157, s307_160, s307_162, s307_165, s307_167, zps_0, zps_1, zps_2, zps_3, zps_9, Option.bind_some, Option.bind_none, Int.reduceEq, Int.reduceNe, Int.reduceLT, Int.reduceLE, Int.reduceNeg, Int.reduceAdd, Int.reduceSub, Int.reduceMul, reduceIte, if_true, if_false, true_and, and_true, false_and, and_false, or_true, true_or, or_false, false_or, not_true_eq_false, not_false_eq_true, ite_not, z_b0, z_b1, z_b01, rMK0 hM, rMK1 hM, rMK2 hM, rMK3 hM, rMK4 hM, rMK5 hM, rMK6 hM, rMK7 hM, rMK8 hM, rMK9 hM, rMK10 hM, rMK11 hM, rMK12 hM, rMK13 hM, rMK14 hM, rMK15 hM, rMK16 hM, rMK17 hM, rMK18 hM, rMK19 hM, rMK20 hM, rMK21 hM, rMK22 hM, rMK23 hM, rMK24 hM, rMK25 hM, rMK26 hM, rMK27 hM, rMK28 hM, rMK29 hM, rMK30 hM, rMK31 hM, rMK32 hM, rMK33 hM, rMK34 hM, rMK35 hM, rMK36 hM, rMK37 hM, rMK38 hM, rMK39 hM, rMK40 hM, rMK41 hM, rMK42 hM, rMK43 hM, rMK44 hM, rMK45 hM, rMK46 hM, rMK47 hM, rMK48 hM, rMK49 hM, rMK50 hM, rMK51 hM, kMK0, kMK1, kMK2, kMK3, kMK4, kMK5, kMK6, kMK7, kMK8, kMK9, kMK10, kMK11, kMK12, kMK13, kMK14, kMK15, kMK16, kMK17, kMK18, kMK19, kMK20, kMK21, kMK22, kMK23, kMK24, kMK25, kMK26, kMK27, kMK28, kMK29, kMK30, kMK31, kMK32, kMK33, kMK34, kMK35, kMK36, kMK37, kMK38, kMK39, kMK40, kMK41, kMK42, kMK43, kMK44, kMK45, kMK46, kMK47, kMK48, kMK49, kMK50, kMK51, kMK52, kMK53, kMK54, kMK55, kMK56, kMK57, kMK58, kMK59, kMK60, kMK61, kMK62, kMK63, kMK64, kMK65, kMK66, kMK67, kMK68, kMK69, kMK70, kMK71, kMK72, kMK73, kMK74, kMK75, kMK76, kMK77, kMK78, kMK79, kMK80, kMK81, kMK82, kMK83, kMK84, kMK85, kMK86, kMK87, kMK88, kMK89, kMK90, kMK91, kMK92, kMK93, kMK94, kMK95, kMK96, kMK97, kMK98, kMK99, kMK100, kMK101, kMK102, kMK103, kMK104, h0, pw, c1, c2, CD, CO, b1, b1', T1, AW, T2, q, z1, if_true, if_false]
        · have q3 : ¬ pCo (w 145) bk.1 n ≤ co := by omega
          simp only [s307_0, s307_1, s307_2, s307_3, s307_6, s307_9, s307_12, s307_13, s307_14, s307_15, s307_18, s307_21, s307_24, s307_27, s307_28, s307_29, s307_30, s307_31, s307_34, s307_36, s307_38, s307_40, s307_41, s307_45, s307_46, s307_47, s307_50, s307_51, s307_54, s307_55, s307_57, s307_60, s307_63, s307_64, s307_66, s307_69, s307_70, s307_73, s307_74, s307_76, s307_77, s307_80, s307_81, s307_84, s307_86, s307_87, s307_89, s307_90, s307_93, s307_95, s307_97, s307_100, s307_102, s307_104, s307_107, s307_108, s307_110, s307_113, s307_114, s307_115, s307_118, s307_121, s307_123, s307_124, s307_126, s307_128, s307_131, s307_134, s307_135, s307_138, s307_139, s307_142, s307_143, s307_144, s307_147, s307_148, s307_149, s307_152, s307_155, s307_156, s307_157, s307_160, s307_162, s307_165, s307_167, zps_0, zps_1, zps_2, zps_3, zps_9, Option.bind_some, Option.bind_none, Int.reduceEq, Int.reduceNe, Int.reduceLT, Int.reduceLE, Int.reduceNeg, Int.reduceAdd, Int.reduceSub, Int.reduceMul, reduceIte, if_true, if_false, true_and, and_true, false_and, and_false, or_true, true_or, or_false, false_or, not_true_eq_false, not_false_eq_true, ite_not, z_b0, z_b1, z_b01, rMK0 hM, rMK1 hM, rMK2 hM, rMK3 hM, rMK4 hM, rMK5 hM, rMK6 hM, rMK7 hM, rMK8 hM, rMK9 hM, rMK10 hM, rMK11 hM, rMK12 hM, rMK13 hM, rMK14 hM, rMK15 hM, rMK16 hM, rMK17 hM, rMK18 hM, rMK19 hM, rMK20 hM, rMK21 hM, rMK22 hM, rMK23 hM, rMK24 hM, rMK25 hM, rMK26 hM, rMK27 hM, rMK28 hM, rMK29 hM, rMK30 hM, rMK31 hM, rMK32 hM, rMK33 hM, rMK34 hM, rMK35 hM, rMK36 hM, rMK37 hM, rMK38 hM, rMK39 hM, rMK40 hM, rMK41 hM, rMK42 hM, rMK43 hM, rMK44 hM, rMK45 hM, rMK46 hM, rMK47 hM, rMK48 hM, rMK49 hM, rMK50 hM, rMK51 hM, kMK0, kMK1, kMK2, kMK3, kMK4, kMK5, kMK6, kMK7, kMK8, kMK9, kMK10, kMK11, kMK12, kMK13, kMK14, kMK15, kMK16, kMK17, kMK18, kMK19, kMK20, kMK21, kMK22, kMK23, kMK24, kMK25, kMK26, kMK27, kMK28, kMK29, kMK30, kMK31, kMK32, kMK33, kMK34, kMK35, kMK36, kMK37, kMK38, kMK39, kMK40, kMK41, kMK42, kMK43, kMK44, kMK45, kMK46, kMK47, kMK48, kMK49, kMK50, kMK51, kMK52, kMK53, kMK54, kMK55, kMK56, kMK57, kMK58, kMK59, kMK60, kMK61, kMK62, kMK63, kMK64, kMK65, kMK66, kMK67, kMK68, kMK69, kMK70, kMK71, kMK72, kMK73, kMK74, kMK75, kMK76, kMK77, kMK78, kMK79, kMK80, kMK81, kMK82, kMK83, kMK84, kMK85, kMK86, kMK87, kMK88, kMK89, kMK90, kMK91, kMK92, kMK93, kMK94, kMK95, kMK96, kMK97, kMK98, kMK99, kMK100, kMK101, kMK102, kMK103, kMK104, h0, pw, c1, c2, CD, CO, CB, b1, b1', T1, AW, T2, q, Int.lt_irrefl, q2, q3, z1, if_true, if_false]
      · have eb : pBw w ln L n B (k + 1) = bk := by rw [bm, if_neg (fun z => b3 z.2)]
        rw [eb]
        refine ⟨(0, v), ?_⟩
        have q1 : ¬ bk.2 < v := fun z => b3 (Or.inl z)
        rw [s307_43]
        by_cases q2 : v = bk.2
        · have q3 : ¬ co < pCo (w 145) bk.1 n := fun z => b3 (Or.inr ⟨q2.symm, z⟩)
          have q4 : pCo (w 145) bk.1 n ≤ co := by omega
          simp only [s307_0, s307_1, s307_2, s307_3, s307_6, s307_9, s307_12, s307_13, s307_14, s307_15, s307_18, s307_21, s307_24, s307_27, s307_28, s307_29, s307_30, s307_31, s307_34, s307_36, s307_38, s307_40, s307_41, s307_45, s307_46, s307_47, s307_50, s307_51, s307_54, s307_55, s307_57, s307_60, s307_63, s307_64, s307_66, s307_69, s307_70, s307_73, s307_74, s307_76, s307_77, s307_80, s307_81, s307_84, s307_86, s307_87, s307_89, s307_90, s307_93, s307_95, s307_97, s307_100, s307_102, s307_104, s307_107, s307_108, s307_110, s307_113, s307_114, s307_115, s307_118, s307_121, s307_123, s307_124, s307_126, s307_128, s307_131, s307_134, s307_135, s307_138, s307_139, s307_142, s307_143, s307_144, s307_147, s307_148, s307_149, s307_152, s307_155, s307_156, s307_157, s307_160, s307_162, s307_165, s307_167, zps_0, zps_1, zps_2, zps_3, zps_9, Option.bind_some, Option.bind_none, Int.reduceEq, Int.reduceNe, Int.reduceLT, Int.reduceLE, Int.reduceNeg, Int.reduceAdd, Int.reduceSub, Int.reduceMul, reduceIte, if_true, if_false, true_and, and_true, false_and, and_false, or_true, true_or, or_false, false_or, not_true_eq_false, not_false_eq_true, ite_not, z_b0, z_b1, z_b01, rMK0 hM, rMK1 hM, rMK2 hM, rMK3 hM, rMK4 hM, rMK5 hM, rMK6 hM, rMK7 hM, rMK8 hM, rMK9 hM, rMK10 hM, rMK11 hM, rMK12 hM, rMK13 hM, rMK14 hM, rMK15 hM, rMK16 hM, rMK17 hM, rMK18 hM, rMK19 hM, rMK20 hM, rMK21 hM, rMK22 hM, rMK23 hM, rMK24 hM, rMK25 hM, rMK26 hM, rMK27 hM, rMK28 hM, rMK29 hM, rMK30 hM, rMK31 hM, rMK32 hM, rMK33 hM, rMK34 hM, rMK35 hM, rMK36 hM, rMK37 hM, rMK38 hM, rMK39 hM, rMK40 hM, rMK41 hM, rMK42 hM, rMK43 hM, rMK44 hM, rMK45 hM, rMK46 hM, rMK47 hM, rMK48 hM, rMK49 hM, rMK50 hM, rMK51 hM, kMK0, kMK1, kMK2, kMK3, kMK4, kMK5, kMK6, kMK7, kMK8, kMK9, kMK10, kMK11, kMK12, kMK13, kMK14, kMK15, kMK16, kMK17, kMK18, kMK19, kMK20, kMK21, kMK22, kMK23, kMK24, kMK25, kMK26, kMK27, kMK28, kMK29, kMK30, kMK31, kMK32, kMK33, kMK34, kMK35, kMK36, kMK37, kMK38, kMK39, kMK40, kMK41, kMK42, kMK43, kMK44, kMK45, kMK46, kMK47, kMK48, kMK49, kMK50, kMK51, kMK52, kMK53, kMK54, kMK55, kMK56, kMK57, kMK58, kMK59, kMK60, kMK61, kMK62, kMK63, kMK64, kMK65, kMK66, kMK67, kMK68, kMK69, kMK70, kMK71, kMK72, kMK73, kMK74, kMK75, kMK76, kMK77, kMK78, kMK79, kMK80, kMK81, kMK82, kMK83, kMK84, kMK85, kMK86, kMK87, kMK88, kMK89, kMK90, kMK91, kMK92, kMK93, kMK94, kMK95, kMK96, kMK97, kMK98, kMK99, kMK100, kMK101, kMK102, kMK103, kMK104, h0, pw, c1, c2, CD, CO, CB, b1, b1', T1, AW, T2, q2, Int.lt_irrefl, q3, q4, z1, if_true, if_false]
        · simp only [s307_0, s307_1, s307_2, s307_3, s307_6, s307_9, s307_12, s307_13, s307_14, s307_15, s307_18, s307_21, s307_24, s307_27, s307_28, s307_29, s307_30, s307_31, s307_34, s307_36, s307_38, s307_40, s307_41, s307_45, s307_46, s307_47, s307_50, s307_51, s307_54, s307_55, s307_57, s307_60, s307_63, s307_64, s307_66, s307_69, s307_70, s307_73, s307_74, s307_76, s307_77, s307_80, s307_81, s307_84, s307_86, s307_87, s307_89, s307_90, s307_93, s307_95, s307_97, s307_100, s307_102, s307_104, s307_107, s307_108, s307_110, s307_113, s307_114, s307_115, s307_118, s307_121, s307_123, s307_124, s307_126, s307_128, s307_131, s307_134, s307_135, s307_138, s307_139, s307_142, s307_143, s307_144, s307_147, s307_148, s307_149, s307_152, s307_155, s307_156, s307_157, s307_160, s307_162, s307_165, s307_167, zps_0, zps_1, zps_2, zps_3, zps_9, Option.bind_some, Option.bind_none, Int.reduceEq, Int.reduceNe, Int.reduceLT, Int.reduceLE, Int.reduceNeg, Int.reduceAdd, Int.reduceSub, Int.reduceMul, reduceIte, if_true, if_false, true_and, and_true, false_and, and_false, or_true, true_or, or_false, false_or, not_true_eq_false, not_false_eq_true, ite_not, z_b0, z_b1, z_b01, rMK0 hM, rMK1 hM, rMK2 hM, rMK3 hM, rMK4 hM, rMK5 hM, rMK6 hM, rMK7 hM, rMK8 hM, rMK9 hM, rMK10 hM, rMK11 hM, rMK12 hM, rMK13 hM, rMK14 hM, rMK15 hM, rMK16 hM, rMK17 hM, rMK18 hM, rMK19 hM, rMK20 hM, rMK21 hM, rMK22 hM, rMK23 hM, rMK24 hM, rMK25 hM, rMK26 hM, rMK27 hM, rMK28 hM, rMK29 hM, rMK30 hM, rMK31 hM, rMK32 hM, rMK33 hM, rMK34 hM, rMK35 hM, rMK36 hM, rMK37 hM, rMK38 hM, rMK39 hM, rMK40 hM, rMK41 hM, rMK42 hM, rMK43 hM, rMK44 hM, rMK45 hM, rMK46 hM, rMK47 hM, rMK48 hM, rMK49 hM, rMK50 hM, rMK51 hM, kMK0, kMK1, kMK2, kMK3, kMK4, kMK5, kMK6, kMK7, kMK8, kMK9, kMK10, kMK11, kMK12, kMK13, kMK14, kMK15, kMK16, kMK17, kMK18, kMK19, kMK20, kMK21, kMK22, kMK23, kMK24, kMK25, kMK26, kMK27, kMK28, kMK29, kMK30, kMK31, kMK32, kMK33, kMK34, kMK35, kMK36, kMK37, kMK38, kMK39, kMK40, kMK41, kMK42, kMK43, kMK44, kMK45, kMK46, kMK47, kMK48, kMK49, kMK50, kMK51, kMK52, kMK53, kMK54, kMK55, kMK56, kMK57, kMK58, kMK59, kMK60, kMK61, kMK62, kMK63, kMK64, kMK65, kMK66, kMK67, kMK68, kMK69, kMK70, kMK71, kMK72, kMK73, kMK74, kMK75, kMK76, kMK77, kMK78, kMK79, kMK80, kMK81, kMK82, kMK83, kMK84, kMK85, kMK86, kMK87, kMK88, kMK89, kMK90, kMK91, kMK92, kMK93, kMK94, kMK95, kMK96, kMK97, kMK98, kMK99, kMK100, kMK101, kMK102, kMK103, kMK104, h0, pw, c1, c2, CD, CO, b1, b1', T1, AW, T2, q1, q2, z1, if_true, if_false]
    · have b1' : B < co := by omega
      have eb : pBw w ln L n B (k + 1) = bk := by rw [bm, if_neg (fun z => b1 z.1.1)]
      rw [eb]
      refine ⟨l7, ?_⟩
      rw [s307_43]
      simp only [s307_0, s307_1, s307_2, s307_3, s307_6, s307_9, s307_12, s307_13, s307_14, s307_15, s307_18, s307_21, s307_24, s307_27, s307_28, s307_29, s307_30, s307_31, s307_34, s307_36, s307_38, s307_40, s307_41, s307_45, s307_46, s307_47, s307_50, s307_51, s307_54, s307_55, s307_57, s307_60, s307_63, s307_64, s307_66, s307_69, s307_70, s307_73, s307_74, s307_76, s307_77, s307_80, s307_81, s307_84, s307_86, s307_87, s307_89, s307_90, s307_93, s307_95, s307_97, s307_100, s307_102, s307_104, s307_107, s307_108, s307_110, s307_113, s307_114, s307_115, s307_118, s307_121, s307_123, s307_124, s307_126, s307_128, s307_131, s307_134, s307_135, s307_138, s307_139, s307_142, s307_143, s307_144, s307_147, s307_148, s307_149, s307_152, s307_155, s307_156, s307_157, s307_160, s307_162, s307_165, s307_167, zps_0, zps_1, zps_2, zps_3, zps_9, Option.bind_some, Option.bind_none, Int.reduceEq, Int.reduceNe, Int.reduceLT, Int.reduceLE, Int.reduceNeg, Int.reduceAdd, Int.reduceSub, Int.reduceMul, reduceIte, if_true, if_false, true_and, and_true, false_and, and_false, or_true, true_or, or_false, false_or, not_true_eq_false, not_false_eq_true, ite_not, z_b0, z_b1, z_b01, rMK0 hM, rMK1 hM, rMK2 hM, rMK3 hM, rMK4 hM, rMK5 hM, rMK6 hM, rMK7 hM, rMK8 hM, rMK9 hM, rMK10 hM, rMK11 hM, rMK12 hM, rMK13 hM, rMK14 hM, rMK15 hM, rMK16 hM, rMK17 hM, rMK18 hM, rMK19 hM, rMK20 hM, rMK21 hM, rMK22 hM, rMK23 hM, rMK24 hM, rMK25 hM, rMK26 hM, rMK27 hM, rMK28 hM, rMK29 hM, rMK30 hM, rMK31 hM, rMK32 hM, rMK33 hM, rMK34 hM, rMK35 hM, rMK36 hM, rMK37 hM, rMK38 hM, rMK39 hM, rMK40 hM, rMK41 hM, rMK42 hM, rMK43 hM, rMK44 hM, rMK45 hM, rMK46 hM, rMK47 hM, rMK48 hM, rMK49 hM, rMK50 hM, rMK51 hM, kMK0, kMK1, kMK2, kMK3, kMK4, kMK5, kMK6, kMK7, kMK8, kMK9, kMK10, kMK11, kMK12, kMK13, kMK14, kMK15, kMK16, kMK17, kMK18, kMK19, kMK20, kMK21, kMK22, kMK23, kMK24, kMK25, kMK26, kMK27, kMK28, kMK29, kMK30, kMK31, kMK32, kMK33, kMK34, kMK35, kMK36, kMK37, kMK38, kMK39, kMK40, kMK41, kMK42, kMK43, kMK44, kMK45, kMK46, kMK47, kMK48, kMK49, kMK50, kMK51, kMK52, kMK53, kMK54, kMK55, kMK56, kMK57, kMK58, kMK59, kMK60, kMK61, kMK62, kMK63, kMK64, kMK65, kMK66, kMK67, kMK68, kMK69, kMK70, kMK71, kMK72, kMK73, kMK74, kMK75, kMK76, kMK77, kMK78, kMK79, kMK80, kMK81, kMK82, kMK83, kMK84, kMK85, kMK86, kMK87, kMK88, kMK89, kMK90, kMK91, kMK92, kMK93, kMK94, kMK95, kMK96, kMK97, kMK98, kMK99, kMK100, kMK101, kMK102, kMK103, kMK104, h0, pw, c1, c2, CD, CO, b1', z1, if_true, if_false]
  · rw [if_neg b2] at CD
    have eb : pBw w ln L n B (k + 1) = bk := by rw [bm, if_neg (fun z => b2 z.1.2)]
    rw [eb]
    refine ⟨l7, ?_⟩
    rw [s307_43]
    simp only [s307_0, s307_1, s307_2, s307_3, s307_6, s307_9, s307_12, s307_13, s307_14, s307_15, s307_18, s307_21, s307_24, s307_27, s307_28, s307_29, s307_30, s307_31, s307_34, s307_36, s307_38, s307_40, s307_41, s307_45, s307_46, s307_47, s307_50, s307_51, s307_54, s307_55, s307_57, s307_60, s307_63, s307_64, s307_66, s307_69, s307_70, s307_73, s307_74, s307_76, s307_77, s307_80, s307_81, s307_84, s307_86, s307_87, s307_89, s307_90, s307_93, s307_95, s307_97, s307_100, s307_102, s307_104, s307_107, s307_108, s307_110, s307_113, s307_114, s307_115, s307_118, s307_121, s307_123, s307_124, s307_126, s307_128, s307_131, s307_134, s307_135, s307_138, s307_139, s307_142, s307_143, s307_144, s307_147, s307_148, s307_149, s307_152, s307_155, s307_156, s307_157, s307_160, s307_162, s307_165, s307_167, zps_0, zps_1, zps_2, zps_3, zps_9, Option.bind_some, Option.bind_none, Int.reduceEq, Int.reduceNe, Int.reduceLT, Int.reduceLE, Int.reduceNeg, Int.reduceAdd, Int.reduceSub, Int.reduceMul, reduceIte, if_true, if_false, true_and, and_true, false_and, and_false, or_true, true_or, or_false, false_or, not_true_eq_false, not_false_eq_true, ite_not, z_b0, z_b1, z_b01, rMK0 hM, rMK1 hM, rMK2 hM, rMK3 hM, rMK4 hM, rMK5 hM, rMK6 hM, rMK7 hM, rMK8 hM, rMK9 hM, rMK10 hM, rMK11 hM, rMK12 hM, rMK13 hM, rMK14 hM, rMK15 hM, rMK16 hM, rMK17 hM, rMK18 hM, rMK19 hM, rMK20 hM, rMK21 hM, rMK22 hM, rMK23 hM, rMK24 hM, rMK25 hM, rMK26 hM, rMK27 hM, rMK28 hM, rMK29 hM, rMK30 hM, rMK31 hM, rMK32 hM, rMK33 hM, rMK34 hM, rMK35 hM, rMK36 hM, rMK37 hM, rMK38 hM, rMK39 hM, rMK40 hM, rMK41 hM, rMK42 hM, rMK43 hM, rMK44 hM, rMK45 hM, rMK46 hM, rMK47 hM, rMK48 hM, rMK49 hM, rMK50 hM, rMK51 hM, kMK0, kMK1, kMK2, kMK3, kMK4, kMK5, kMK6, kMK7, kMK8, kMK9, kMK10, kMK11, kMK12, kMK13, kMK14, kMK15, kMK16, kMK17, kMK18, kMK19, kMK20, kMK21, kMK22, kMK23, kMK24, kMK25, kMK26, kMK27, kMK28, kMK29, kMK30, kMK31, kMK32, kMK33, kMK34, kMK35, kMK36, kMK37, kMK38, kMK39, kMK40, kMK41, kMK42, kMK43, kMK44, kMK45, kMK46, kMK47, kMK48, kMK49, kMK50, kMK51, kMK52, kMK53, kMK54, kMK55, kMK56, kMK57, kMK58, kMK59, kMK60, kMK61, kMK62, kMK63, kMK64, kMK65, kMK66, kMK67, kMK68, kMK69, kMK70, kMK71, kMK72, kMK73, kMK74, kMK75, kMK76, kMK77, kMK78, kMK79, kMK80, kMK81, kMK82, kMK83, kMK84, kMK85, kMK86, kMK87, kMK88, kMK89, kMK90, kMK91, kMK92, kMK93, kMK94, kMK95, kMK96, kMK97, kMK98, kMK99, kMK100, kMK101, kMK102, kMK103, kMK104, h0, pw, c1, c2, CD, z1, if_true, if_false]
theorem tz_mchosen (hM : MK R) (hV : MV w) (hL : ML w ln L) (h : PLm w n) (B c : Int) : ev 307 0 [(2, 100), (0, B), (0, c), (9, 0), (9, 0), (9, 0), (9, 0), (9, 0)] [] R w = some ((0, if (0 ≤ B ∧ B ≤ 999) ∧ 0 ≤ c ∧ c ≤ 3 then (if c = 0 then (pBw w ln L n B (2 ^ n - 1)).1 else if c = 1 then pCo (w 145) (pBw w ln L n B (2 ^ n - 1)).1 n else if c = 2 then (pBw w ln L n B (2 ^ n - 1)).2 else pSm w ln L (w 101) (w 103)) else -1000000), R, w) := by
  have h0 := h.1
  have h6 := h.2.1
  obtain ⟨w1, w2⟩ := pw_b h6
  have pw := pw_n h6
  have AW := tz_mallWorth (R := R) (w := w) hM hV hL
  have eS : zsow (mN w) (w 100 0) ln (w 100 6) (w 101) (w 103) L = pSm w ln L (w 101) (w 103) := rfl
  rw [eS] at AW
  obtain ⟨a, ha⟩ : ∃ a, pSm w ln L (w 101) (w 103) = a := ⟨_, rfl⟩
  rw [ha] at AW ⊢
  by_cases cB : 0 ≤ B ∧ B ≤ 999
  · by_cases cc : 0 ≤ c ∧ c ≤ 3
    · rw [if_pos ⟨cB, cc⟩]
      have L0 : ev 307 0 [(2, 100), (0, B), (0, c), (9, 0), (9, 0), (9, 0), (9, 0), (9, 0)] [] R w = ev 307 43 [(2, 100), (0, B), (0, c), (0, (pBw w ln L n B 0).1), (0, a), (0, (pBw w ln L n B 0).2), (0, ((0 + 1 : Nat) : Int)), (9, 0)] [] R w := by
        have e : pBw w ln L n B 0 = (0, a) := by unfold pBw; simp only [pBt]; rw [ha]
        rw [e]
        simp only [s307_0, s307_1, s307_2, s307_3, s307_6, s307_9, s307_12, s307_13, s307_14, s307_15, s307_18, s307_21, s307_24, s307_27, s307_28, s307_29, s307_30, s307_31, s307_34, s307_36, s307_38, s307_40, s307_41, s307_45, s307_46, s307_47, s307_50, s307_51, s307_54, s307_55, s307_57, s307_60, s307_63, s307_64, s307_66, s307_69, s307_70, s307_73, s307_74, s307_76, s307_77, s307_80, s307_81, s307_84, s307_86, s307_87, s307_89, s307_90, s307_93, s307_95, s307_97, s307_100, s307_102, s307_104, s307_107, s307_108, s307_110, s307_113, s307_114, s307_115, s307_118, s307_121, s307_123, s307_124, s307_126, s307_128, s307_131, s307_134, s307_135, s307_138, s307_139, s307_142, s307_143, s307_144, s307_147, s307_148, s307_149, s307_152, s307_155, s307_156, s307_157, s307_160, s307_162, s307_165, s307_167, zps_0, zps_1, zps_2, zps_3, zps_9, Option.bind_some, Option.bind_none, Int.reduceEq, Int.reduceNe, Int.reduceLT, Int.reduceLE, Int.reduceNeg, Int.reduceAdd, Int.reduceSub, Int.reduceMul, reduceIte, if_true, if_false, true_and, and_true, false_and, and_false, or_true, true_or, or_false, false_or, not_true_eq_false, not_false_eq_true, ite_not, z_b0, z_b1, z_b01, rMK0 hM, rMK1 hM, rMK2 hM, rMK3 hM, rMK4 hM, rMK5 hM, rMK6 hM, rMK7 hM, rMK8 hM, rMK9 hM, rMK10 hM, rMK11 hM, rMK12 hM, rMK13 hM, rMK14 hM, rMK15 hM, rMK16 hM, rMK17 hM, rMK18 hM, rMK19 hM, rMK20 hM, rMK21 hM, rMK22 hM, rMK23 hM, rMK24 hM, rMK25 hM, rMK26 hM, rMK27 hM, rMK28 hM, rMK29 hM, rMK30 hM, rMK31 hM, rMK32 hM, rMK33 hM, rMK34 hM, rMK35 hM, rMK36 hM, rMK37 hM, rMK38 hM, rMK39 hM, rMK40 hM, rMK41 hM, rMK42 hM, rMK43 hM, rMK44 hM, rMK45 hM, rMK46 hM, rMK47 hM, rMK48 hM, rMK49 hM, rMK50 hM, rMK51 hM, kMK0, kMK1, kMK2, kMK3, kMK4, kMK5, kMK6, kMK7, kMK8, kMK9, kMK10, kMK11, kMK12, kMK13, kMK14, kMK15, kMK16, kMK17, kMK18, kMK19, kMK20, kMK21, kMK22, kMK23, kMK24, kMK25, kMK26, kMK27, kMK28, kMK29, kMK30, kMK31, kMK32, kMK33, kMK34, kMK35, kMK36, kMK37, kMK38, kMK39, kMK40, kMK41, kMK42, kMK43, kMK44, kMK45, kMK46, kMK47, kMK48, kMK49, kMK50, kMK51, kMK52, kMK53, kMK54, kMK55, kMK56, kMK57, kMK58, kMK59, kMK60, kMK61, kMK62, kMK63, kMK64, kMK65, kMK66, kMK67, kMK68, kMK69, kMK70, kMK71, kMK72, kMK73, kMK74, kMK75, kMK76, kMK77, kMK78, kMK79, kMK80, kMK81, kMK82, kMK83, kMK84, kMK85, kMK86, kMK87, kMK88, kMK89, kMK90, kMK91, kMK92, kMK93, kMK94, kMK95, kMK96, kMK97, kMK98, kMK99, kMK100, kMK101, kMK102, kMK103, kMK104, tz_in, cB, cc, and_self, if_true, AW]
        rfl
      have key : ∀ k : Nat, k + 1 ≤ 2 ^ n → ∃ l7 : zV, ev 307 43 [(2, 100), (0, B), (0, c), (0, (pBw w ln L n B 0).1), (0, a), (0, (pBw w ln L n B 0).2), (0, ((0 + 1 : Nat) : Int)), (9, 0)] [] R w = ev 307 43 [(2, 100), (0, B), (0, c), (0, (pBw w ln L n B k).1), (0, a), (0, (pBw w ln L n B k).2), (0, ((k + 1 : Nat) : Int)), l7] [] R w := by
        intro k
        induction k with
        | zero => intro _; exact ⟨(9, 0), rfl⟩
        | succ k ih =>
          intro hk
          obtain ⟨l7, e1⟩ := ih (by omega)
          obtain ⟨l7', e2⟩ := tz_mchose1 (R := R) hM hV hL h B a c (k := k) (by omega) l7
          exact ⟨l7', e1.trans e2⟩
      obtain ⟨l7, e1⟩ := key (2 ^ n - 1) (by omega)
      rw [L0, e1, show 2 ^ n - 1 + 1 = 2 ^ n by omega]
      have CB := tz_mcostOf (R := R) (w := w) hM h (pBw w ln L n B (2 ^ n - 1)).1
      generalize pBw w ln L n B (2 ^ n - 1) = bk at *
      rw [s307_43]
      have e : c = 0 ∨ c = 1 ∨ c = 2 ∨ c = 3 := by omega
      rcases e with e | e | e | e <;> subst e <;> simp only [s307_0, s307_1, s307_2, s307_3, s307_6, s307_9, s307_12, s307_13, s307_14, s307_15, s307_18, s307_21, s307_24, s307_27, s307_28, s307_29, s307_30, s307_31, s307_34, s307_36, s307_38, s307_40, s307_41, s307_45, s307_46, s307_47, s307_50, s307_51, s307_54, s307_55, s307_57, s307_60, s307_63, s307_64, s307_66, s307_69, s307_70, s307_73, s307_74, s307_76, s307_77, s307_80, s307_81, s307_84, s307_86, s307_87, s307_89, s307_90, s307_93, s307_95, s307_97, s307_100, s307_102, s307_104, s307_107, s307_108, s307_110, s307_113, s307_114, s307_115, s307_118, s307_121, s307_123, s307_124, s307_126, s307_128, s307_131, s307_134, s307_135, s307_138, s307_139, s307_142, s307_143, s307_144, s307_147, s307_148, s307_149, s307_152, s307_155, s307_156, s307_157, s307_160, s307_162, s307_165, s307_167, zps_0, zps_1, zps_2, zps_3, zps_9, Option.bind_some, Option.bind_none, Int.reduceEq, Int.reduceNe, Int.reduceLT, Int.reduceLE, Int.reduceNeg, Int.reduceAdd, Int.reduceSub, Int.reduceMul, reduceIte, if_true, if_false, true_and, and_true, false_and, and_false, or_true, true_or, or_false, false_or, not_true_eq_false, not_false_eq_true, ite_not, z_b0, z_b1, z_b01, rMK0 hM, rMK1 hM, rMK2 hM, rMK3 hM, rMK4 hM, rMK5 hM, rMK6 hM, rMK7 hM, rMK8 hM, rMK9 hM, rMK10 hM, rMK11 hM, rMK12 hM, rMK13 hM, rMK14 hM, rMK15 hM, rMK16 hM, rMK17 hM, rMK18 hM, rMK19 hM, rMK20 hM, rMK21 hM, rMK22 hM, rMK23 hM, rMK24 hM, rMK25 hM, rMK26 hM, rMK27 hM, rMK28 hM, rMK29 hM, rMK30 hM, rMK31 hM, rMK32 hM, rMK33 hM, rMK34 hM, rMK35 hM, rMK36 hM, rMK37 hM, rMK38 hM, rMK39 hM, rMK40 hM, rMK41 hM, rMK42 hM, rMK43 hM, rMK44 hM, rMK45 hM, rMK46 hM, rMK47 hM, rMK48 hM, rMK49 hM, rMK50 hM, rMK51 hM, kMK0, kMK1, kMK2, kMK3, kMK4, kMK5, kMK6, kMK7, kMK8, kMK9, kMK10, kMK11, kMK12, kMK13, kMK14, kMK15, kMK16, kMK17, kMK18, kMK19, kMK20, kMK21, kMK22, kMK23, kMK24, kMK25, kMK26, kMK27, kMK28, kMK29, kMK30, kMK31, kMK32, kMK33, kMK34, kMK35, kMK36, kMK37, kMK38, kMK39, kMK40, kMK41, kMK42, kMK43, kMK44, kMK45, kMK46, kMK47, kMK48, kMK49, kMK50, kMK51, kMK52, kMK53, kMK54, kMK55, kMK56, kMK57, kMK58, kMK59, kMK60, kMK61, kMK62, kMK63, kMK64, kMK65, kMK66, kMK67, kMK68, kMK69, kMK70, kMK71, kMK72, kMK73, kMK74, kMK75, kMK76, kMK77, kMK78, kMK79, kMK80, kMK81, kMK82, kMK83, kMK84, kMK85, kMK86, kMK87, kMK88, kMK89, kMK90, kMK91, kMK92, kMK93, kMK94, kMK95, kMK96, kMK97, kMK98, kMK99, kMK100, kMK101, kMK102, kMK103, kMK104, h0, pw, Int.le_refl, CB, if_true, if_false]
    · rw [if_neg (fun z => cc z.2)]
      simp only [s307_0, s307_1, s307_2, s307_3, s307_6, s307_9, s307_12, s307_13, s307_14, s307_15, s307_18, s307_21, s307_24, s307_27, s307_28, s307_29, s307_30, s307_31, s307_34, s307_36, s307_38, s307_40, s307_41, s307_45, s307_46, s307_47, s307_50, s307_51, s307_54, s307_55, s307_57, s307_60, s307_63, s307_64, s307_66, s307_69, s307_70, s307_73, s307_74, s307_76, s307_77, s307_80, s307_81, s307_84, s307_86, s307_87, s307_89, s307_90, s307_93, s307_95, s307_97, s307_100, s307_102, s307_104, s307_107, s307_108, s307_110, s307_113, s307_114, s307_115, s307_118, s307_121, s307_123, s307_124, s307_126, s307_128, s307_131, s307_134, s307_135, s307_138, s307_139, s307_142, s307_143, s307_144, s307_147, s307_148, s307_149, s307_152, s307_155, s307_156, s307_157, s307_160, s307_162, s307_165, s307_167, zps_0, zps_1, zps_2, zps_3, zps_9, Option.bind_some, Option.bind_none, Int.reduceEq, Int.reduceNe, Int.reduceLT, Int.reduceLE, Int.reduceNeg, Int.reduceAdd, Int.reduceSub, Int.reduceMul, reduceIte, if_true, if_false, true_and, and_true, false_and, and_false, or_true, true_or, or_false, false_or, not_true_eq_false, not_false_eq_true, ite_not, z_b0, z_b1, z_b01, rMK0 hM, rMK1 hM, rMK2 hM, rMK3 hM, rMK4 hM, rMK5 hM, rMK6 hM, rMK7 hM, rMK8 hM, rMK9 hM, rMK10 hM, rMK11 hM, rMK12 hM, rMK13 hM, rMK14 hM, rMK15 hM, rMK16 hM, rMK17 hM, rMK18 hM, rMK19 hM, rMK20 hM, rMK21 hM, rMK22 hM, rMK23 hM, rMK24 hM, rMK25 hM, rMK26 hM, rMK27 hM, rMK28 hM, rMK29 hM, rMK30 hM, rMK31 hM, rMK32 hM, rMK33 hM, rMK34 hM, rMK35 hM, rMK36 hM, rMK37 hM, rMK38 hM, rMK39 hM, rMK40 hM, rMK41 hM, rMK42 hM, rMK43 hM, rMK44 hM, rMK45 hM, rMK46 hM, rMK47 hM, rMK48 hM, rMK49 hM, rMK50 hM, rMK51 hM, kMK0, kMK1, kMK2, kMK3, kMK4, kMK5, kMK6, kMK7, kMK8, kMK9, kMK10, kMK11, kMK12, kMK13, kMK14, kMK15, kMK16, kMK17, kMK18, kMK19, kMK20, kMK21, kMK22, kMK23, kMK24, kMK25, kMK26, kMK27, kMK28, kMK29, kMK30, kMK31, kMK32, kMK33, kMK34, kMK35, kMK36, kMK37, kMK38, kMK39, kMK40, kMK41, kMK42, kMK43, kMK44, kMK45, kMK46, kMK47, kMK48, kMK49, kMK50, kMK51, kMK52, kMK53, kMK54, kMK55, kMK56, kMK57, kMK58, kMK59, kMK60, kMK61, kMK62, kMK63, kMK64, kMK65, kMK66, kMK67, kMK68, kMK69, kMK70, kMK71, kMK72, kMK73, kMK74, kMK75, kMK76, kMK77, kMK78, kMK79, kMK80, kMK81, kMK82, kMK83, kMK84, kMK85, kMK86, kMK87, kMK88, kMK89, kMK90, kMK91, kMK92, kMK93, kMK94, kMK95, kMK96, kMK97, kMK98, kMK99, kMK100, kMK101, kMK102, kMK103, kMK104, tz_in, cB, cc, and_self, if_true, if_false]
  · rw [if_neg (fun z => cB z.1)]
    simp only [s307_0, s307_1, s307_2, s307_3, s307_6, s307_9, s307_12, s307_13, s307_14, s307_15, s307_18, s307_21, s307_24, s307_27, s307_28, s307_29, s307_30, s307_31, s307_34, s307_36, s307_38, s307_40, s307_41, s307_45, s307_46, s307_47, s307_50, s307_51, s307_54, s307_55, s307_57, s307_60, s307_63, s307_64, s307_66, s307_69, s307_70, s307_73, s307_74, s307_76, s307_77, s307_80, s307_81, s307_84, s307_86, s307_87, s307_89, s307_90, s307_93, s307_95, s307_97, s307_100, s307_102, s307_104, s307_107, s307_108, s307_110, s307_113, s307_114, s307_115, s307_118, s307_121, s307_123, s307_124, s307_126, s307_128, s307_131, s307_134, s307_135, s307_138, s307_139, s307_142, s307_143, s307_144, s307_147, s307_148, s307_149, s307_152, s307_155, s307_156, s307_157, s307_160, s307_162, s307_165, s307_167, zps_0, zps_1, zps_2, zps_3, zps_9, Option.bind_some, Option.bind_none, Int.reduceEq, Int.reduceNe, Int.reduceLT, Int.reduceLE, Int.reduceNeg, Int.reduceAdd, Int.reduceSub, Int.reduceMul, reduceIte, if_true, if_false, true_and, and_true, false_and, and_false, or_true, true_or, or_false, false_or, not_true_eq_false, not_false_eq_true, ite_not, z_b0, z_b1, z_b01, rMK0 hM, rMK1 hM, rMK2 hM, rMK3 hM, rMK4 hM, rMK5 hM, rMK6 hM, rMK7 hM, rMK8 hM, rMK9 hM, rMK10 hM, rMK11 hM, rMK12 hM, rMK13 hM, rMK14 hM, rMK15 hM, rMK16 hM, rMK17 hM, rMK18 hM, rMK19 hM, rMK20 hM, rMK21 hM, rMK22 hM, rMK23 hM, rMK24 hM, rMK25 hM, rMK26 hM, rMK27 hM, rMK28 hM, rMK29 hM, rMK30 hM, rMK31 hM, rMK32 hM, rMK33 hM, rMK34 hM, rMK35 hM, rMK36 hM, rMK37 hM, rMK38 hM, rMK39 hM, rMK40 hM, rMK41 hM, rMK42 hM, rMK43 hM, rMK44 hM, rMK45 hM, rMK46 hM, rMK47 hM, rMK48 hM, rMK49 hM, rMK50 hM, rMK51 hM, kMK0, kMK1, kMK2, kMK3, kMK4, kMK5, kMK6, kMK7, kMK8, kMK9, kMK10, kMK11, kMK12, kMK13, kMK14, kMK15, kMK16, kMK17, kMK18, kMK19, kMK20, kMK21, kMK22, kMK23, kMK24, kMK25, kMK26, kMK27, kMK28, kMK29, kMK30, kMK31, kMK32, kMK33, kMK34, kMK35, kMK36, kMK37, kMK38, kMK39, kMK40, kMK41, kMK42, kMK43, kMK44, kMK45, kMK46, kMK47, kMK48, kMK49, kMK50, kMK51, kMK52, kMK53, kMK54, kMK55, kMK56, kMK57, kMK58, kMK59, kMK60, kMK61, kMK62, kMK63, kMK64, kMK65, kMK66, kMK67, kMK68, kMK69, kMK70, kMK71, kMK72, kMK73, kMK74, kMK75, kMK76, kMK77, kMK78, kMK79, kMK80, kMK81, kMK82, kMK83, kMK84, kMK85, kMK86, kMK87, kMK88, kMK89, kMK90, kMK91, kMK92, kMK93, kMK94, kMK95, kMK96, kMK97, kMK98, kMK99, kMK100, kMK101, kMK102, kMK103, kMK104, tz_in, cB, if_true, if_false]
/-- other rows, the same choice -/
theorem pBt_c {SW SW' : (Int → Int) → (Int → Int) → Int} {P' Kd' C' G' U' : Int → Int} {N : Int} (hP : ∀ k : Int, 0 ≤ k → k < n → P' k = P k ∧ Kd' k = Kd k ∧ C' k = C k ∧ 0 ≤ P k ∧ P k < N) (hG : ∀ q, 0 ≤ q → q < N → G' q = G q ∧ U' q = U q) (hS : ∀ A A' E E' : Int → Int, (∀ q, 0 ≤ q → q < N → A' q = A q ∧ E' q = E q) → SW' A' E' = SW A E) (B : Int) (k : Nat) : pBt SW' P' Kd' C' G' U' n B k = pBt SW P Kd C G U n B k ∧ ∀ s, pCo C' s n = pCo C s n := by
  have co : ∀ s, ∀ j : Nat, j ≤ n → pCo C' s j = pCo C s j := by
    intro s j
    induction j with
    | zero => intro _; rfl
    | succ j ih => intro hj; simp only [pCo]; rw [ih (by omega), (hP j (by omega) (by omega)).2.2.1]
  have gu : ∀ s, ∀ j : Nat, j ≤ n → ∀ q, 0 ≤ q → q < N → (pGU P' Kd' G' U' s j).1 q = (pGU P Kd G U s j).1 q ∧ (pGU P' Kd' G' U' s j).2 q = (pGU P Kd G U s j).2 q := by
    intro s j
    induction j with
    | zero => intro _; exact hG
    | succ j ih =>
      intro hj q q0 q1
      have ih := ih (by omega) q q0 q1
      obtain ⟨p1, p2, -, -, -⟩ := hP j (by omega) (by omega)
      simp only [pGU]
      by_cases b : ybt s j = true
      · rw [if_pos b, if_pos b]
        dsimp only
        rw [zrw_if, zrw_if, zrw_if, zrw_if, p1, p2, ih.1, ih.2]
        exact ⟨rfl, rfl⟩
      · rw [if_neg b, if_neg b]; exact ih
  have ca : ∀ s, pCan P' G' U' s n = pCan P G U s n := by
    intro s
    unfold pCan
    congr 1
    refine zany_congr (fun b b0 b1 => ?_)
    obtain ⟨p1, -, -, p4, p5⟩ := hP b b0 b1
    unfold pBad
    rw [p1, (hG _ p4 p5).1, (hG _ p4 p5).2]
    congr 2
    refine zany_congr (fun a a0 a1 => ?_)
    rw [(hP a a0 (by omega)).1]
  refine ⟨?_, fun s => co s n (Nat.le_refl _)⟩
  induction k with
  | zero => simp only [pBt]; rw [hS G G' U U' hG]
  | succ k ih =>
    simp only [pBt]
    rw [ih, co _ n (Nat.le_refl _), co _ n (Nat.le_refl _), ca, hS _ _ _ _ (gu ((k : Int) + 1) n (Nat.le_refl _))]
end MPLANS2
