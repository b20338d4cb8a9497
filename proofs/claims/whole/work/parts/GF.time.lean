/-! time, way: by tram and on foot, no crowd -/
def wTw (m : zM) : zM := zpr (zup m 100 56 1) 135 (zfll (m 135) 128 0)
section TIMEX
variable {R m x y w : zM} {p q t u S0 K Y to a b : Int}
theorem wTw_rows (m : zM) : wTw m 135 = zfll (m 135) 128 0 ∧ wTw m 100 = zrw (m 100) 56 1 ∧ ∀ b, b ≠ 135 → b ≠ 100 → wTw m b = m b := by
  unfold wTw
  rw [zup_zpr]
  exact ⟨zpr_at _ _ _, by rw [zpr_ne (by decide), zpr_at], fun b b1 b2 => by rw [zpr_ne b1, zpr_ne b2]⟩
theorem wTw_k (m : zM) (k : Int) (hk : k ≠ 56) : wTw m 100 k = m 100 k := by rw [(wTw_rows m).2.1, zrw_ne hk]
theorem wTw_56 (m : zM) : wTw m 100 56 = 1 := by rw [(wTw_rows m).2.1, zrw_at]
theorem wTw_N (m : zM) : mN (wTw m) = mN m := by unfold mN; rw [wTw_k m 0 (by decide), wTw_k m 1 (by decide)]
theorem wTw_V (h : MV m) : MV (wTw m) := by
  have ro := (wTw_rows m).2.2
  unfold MV
  rw [wTw_N, wTw_k m 0 (by decide), wTw_k m 1 (by decide), ro 101 (by decide) (by decide), ro 102 (by decide) (by decide), ro 103 (by decide) (by decide)]
  exact h
theorem wTw_Cr (m : zM) : wCr (wTw m) := by
  intro e e0 e1
  rw [(wTw_rows m).1]
  unfold zfll
  rw [if_pos ⟨e0, e1⟩]
  omega
theorem wTw_WRs (h : WRs m m) : WRs m (wTw m) := by
  obtain ⟨a, b, c, d, e⟩ := h
  have ro := (wTw_rows m).2.2
  unfold WRs
  rw [wTw_N, wTw_k m 51 (by decide), ro 131 (by decide) (by decide), ro 132 (by decide) (by decide)]
  exact ⟨RB_c (fun _ _ _ => rfl) (wTw_k m 0 (by decide)) (wTw_k m 1 (by decide)) (ro 101 (by decide) (by decide)) (ro 102 (by decide) (by decide)) (ro 103 (by decide) (by decide)) a, b, c, d, e⟩
theorem WRs_Stop (h : WRs x w) : wStop w := by
  obtain ⟨a, b, c, d, e⟩ := h
  have n64 := MV_n a.2.1
  intro s s0 s1 hs
  unfold wPl
  by_cases k : s < 64
  · rw [if_pos k]; omega
  · rw [if_neg k]
    unfold wSt at hs
    rw [if_neg k, Bool.and_eq_true, decide_eq_true_iff, decide_eq_true_iff] at hs
    obtain ⟨-, -, h1, h2⟩ := hs
    have := e (s - 64) (by omega) (by omega) (by rw [c _ (by omega) (by omega), if_pos h1]; exact h2)
    omega
theorem wTw_CRg (hV : BV m 3) (hc : ∀ i, 0 ≤ i → i < 256 → 0 ≤ m 75 i ∧ m 75 i ≤ 1000) : CRg m (wTw m) 0 := by
  refine ⟨⟨fun h => absurd rfl h, fun h => by rw [wTw_56] at h; omega⟩, fun p d p0 p1 d0 d1 g => ?_, hc⟩
  obtain ⟨r1, r2, r3⟩ := cGo_r hV g
  have eb := wEd_b r1 r2 (Ne.symm (zfar_n r3))
  rw [if_neg (by decide), (wTw_rows m).1]
  unfold zfll
  rw [if_pos eb]
theorem tz_byTram (h : Rel R m S0 K) (hto : 0 ≤ to ∧ to < 64) : ∃ m' : zM, ev 153 0 [(2, 70), (0, to), (0, 0), (9, 0), (9, 0)] [] R m = some ((9, 0), R, m') ∧ CTr m' (wTw m) (pD (wTw m) to) ∧ (∀ b, b ≠ 70 → b ≠ 73 → b ≠ 74 → b ≠ 76 → b ≠ 77 → m' b = m b) ∧ (∀ k, k ≠ 7 → k ≠ 10 → m' 70 k = m 70 k) ∧ LDok m' ∧ m' 70 7 = m 3 3 := by
  have h' := h
  obtain ⟨hRT, hA, hT, hKA, hPA, hTP, hWT, hWL, ⟨ntr, hTR⟩, ⟨npl, hPL⟩, hNT, hSH⟩ := h'
  obtain ⟨hT2, hT30, hL68, hGK, hAK, hXK, hWK, hPK, hQK, hNK, hCK, hM⟩ := hRT.1
  have hW := wTw_WRs (WRs_of hT hWT)
  have hV' := wTw_V hT.1.2.1
  have hg := wTw_CRg (TR_V3 hT) hWL.2.2
  obtain ⟨y, e1, a1, a2, a3, a4, a5, Q, hQ, a6⟩ := tz_measure hWK (TK_B3 hT2) hW (wTw_Cr m) hWL.2.1 hto (Or.inl rfl) hg
  have hD := pD_DFn (to := to) hV' (wTw_Cr m) ⟨hto.1, by omega⟩
  refine ⟨y, e1, ⟨a3, WRs_c (fun b b0 b1 => a1 b (by omega) (by omega) (by omega) (by omega) (by omega)) (a2 1 (by decide) (by decide)) (a1 71 (by decide) (by decide) (by decide) (by decide) (by decide)) (a1 72 (by decide) (by decide) (by decide) (by decide) (by decide)) hW, CRm_of hg a5 (a1 3 (by decide) (by decide) (by decide) (by decide) (by decide)) (a1 4 (by decide) (by decide) (by decide) (by decide) (by decide)) (a1 75 (by decide) (by decide) (by decide) (by decide) (by decide)) a3, wTw_Cr m, fun s s0 s1 => ?_⟩, a1, a2, a3, a4⟩
  rw [a6 s s0 s1, pD_of hQ]
  refine ⟨rfl, ?_⟩
  rcases hD.1 s s0 s1 with q | q <;> omega
theorem wTw_qc (h100 : x 100 = m 100) (h : ∀ b, (101 ≤ b ∧ b ≤ 103) ∨ b = 131 ∨ b = 132 ∨ b = 135 → x b = m b) : zqc (wTw m) (wTw x) := by
  obtain ⟨a1, a2, a3⟩ := wTw_rows m
  obtain ⟨b1, b2, b3⟩ := wTw_rows x
  refine ⟨by rw [b2, a2, h100], by rw [b2, a2, h100], by rw [b2, a2, h100], by rw [b2, a2, h100], ?_, ?_, ?_, ?_, ?_, ?_⟩
  · rw [b3 101 (by decide) (by decide), a3 101 (by decide) (by decide), h 101 (by omega)]
  · rw [b3 102 (by decide) (by decide), a3 102 (by decide) (by decide), h 102 (by omega)]
  · rw [b3 103 (by decide) (by decide), a3 103 (by decide) (by decide), h 103 (by omega)]
  · rw [b3 131 (by decide) (by decide), a3 131 (by decide) (by decide), h 131 (by omega)]
  · rw [b3 132 (by decide) (by decide), a3 132 (by decide) (by decide), h 132 (by omega)]
  · rw [b1, a1, h 135 (by omega)]
theorem Rel_way (h : Rel R m S0 K) (hL : WLd x) (g : ∀ b, b < 70 ∨ b = 71 ∨ b = 72 ∨ (78 < b ∧ b < 100) ∨ (100 < b ∧ b < 133) ∨ 138 < b → x b = m b) (h701 : x 70 1 = m 70 1) (hk : ∀ k, k < 56 ∨ 58 < k → x 100 k = m 100 k) : Rel R x S0 (K + 1) := by
  obtain ⟨hRT, hA, hT, hKA, hPA, hTP, hWT, hWL, ⟨ntr, hTR⟩, ⟨npl, hPL⟩, hNT, hSH⟩ := h
  have k0 := hk 0 (by decide)
  have k1 := hk 1 (by decide)
  refine ⟨hRT, ARl_c (fun b b0 b1 => g b (by omega)) (by rw [g 58 (by omega)]) (fun b b0 => g b (by omega)) (fun b b0 => g b (by omega)) ⟨k0, k1, hk 6 (by decide), hk 10 (by decide), hk 19 (by decide)⟩ hA, TR_c (fun a a0 a1 => g a (by omega)) ⟨fun a a0 a1 => g a (by omega), k0, k1, hk 6 (by decide), hk 7 (by decide), hk 8 (by decide), hk 10 (by decide)⟩ hT, KAn_c (g 3 (by omega)) (fun b b0 b1 => g b (by omega)) hKA (by omega), PAs_c (by rw [g 2 (by omega)]) (g 27 (by omega)) (g 28 (by omega)) (g 118 (by omega)) (g 119 (by omega)) k0 k1 hPA, TPe_c (by rw [g 63 (by omega)]) (by rw [g 63 (by omega)]) (g 64 (by omega)) (hk 27 (by decide)) (hk 28 (by decide)) (g 120 (by omega)) (g 122 (by omega)) (g 123 (by omega)) hTP, WTr_c h701 (g 71 (by omega)) (g 72 (by omega)) (hk 51 (by decide)) (g 131 (by omega)) (g 132 (by omega)) k0 k1 hWT, hL, ⟨ntr, TRi_c hT.1.2.1 (fun b b0 b1 => g b (by omega)) (g 139 (by omega)) (g 140 (by omega)) (hk 62 (by decide)) (by rw [g 3 (by omega)]; exact Int.le_refl _) (fun _ => ⟨⟨k0, k1⟩, fun p p0 p1 => by rw [g 101 (by omega), g 102 (by omega)]; exact ⟨rfl, rfl⟩⟩) hTR⟩, ⟨npl, PLa_c (fun b b0 b1 _ => g b (by omega)) (by rw [g 87 (by omega)]) (g 143 (by omega)) (g 144 (by omega)) (g 145 (by omega)) (hk 67 (by decide)) k0 k1 hPL⟩, NTe_c (fun b b0 b1 => g b (by omega)) (by rw [g 91 (by omega)]) (hk 71 (by decide)) (fun b b0 b1 => g b (by omega)) hNT, SHe_c (fun b b0 b1 => g b (by omega)) (fun b b0 b1 => g b (by omega)) hSH⟩
theorem top_time (a b : Int) : Top 207 286 [(0, a), (0, b)] [(0, a), (0, b)] := by
  intro R m S0 K h hK0 hK
  have h' := h
  obtain ⟨hRT, hA, hT, hKA, hPA, hTP, hWT, hWL, ⟨ntr, hTR⟩, ⟨npl, hPL⟩, hNT, hSH⟩ := h'
  obtain ⟨hT2, hT30, hL68, hGK, hAK, hXK, hWK, hPK, hQK, hNK, hCK, hM⟩ := hRT.1
  have H1 := tz_has (m := m) (TK_B3 hT2) a
  have H2 := tz_has (m := m) (TK_B3 hT2) b
  rw [TR_n3 hT] at H1 H2
  have I1 := tz_isPlot (R := R) (m := m) hM hT.1.2.1 a
  have I2 := tz_isPlot (R := R) (m := m) hM hT.1.2.1 b
  have n64 := MV_n hT.1.2.1
  by_cases ha : 0 ≤ a ∧ a < mN m
  · rw [if_pos ha] at H1 I1
    by_cases hb : 0 ≤ b ∧ b < mN m
    · rw [if_pos hb] at H2 I2
      by_cases e : a = b
      · rw [e] at H1 I1
        refine ⟨0, R, m, m, ?_, ?_, Rel_K h (by omega), fun _ _ _ => rfl⟩
        · simp only [s207_0, s207_1, s207_4, s207_7, s207_8, s207_11, s207_14, s207_15, s207_18, s207_21, s207_22, s207_25, s207_28, s207_29, s207_30, s207_31, s207_32, s207_35, s207_36, s207_37, s207_38, s207_41, s207_42, s207_43, s207_46, s207_47, s207_50, s207_51, s207_54, s207_57, s207_58, s207_61, s207_62, s207_65, s207_68, s207_70, zps_0, zps_1, zps_2, zps_3, zps_9, Option.bind_some, Option.bind_none, Int.reduceEq, Int.reduceNe, Int.reduceLT, Int.reduceLE, Int.reduceNeg, Int.reduceAdd, Int.reduceSub, Int.reduceMul, reduceIte, if_true, if_false, true_and, and_true, false_and, and_false, or_true, true_or, or_false, false_or, not_true_eq_false, not_false_eq_true, ite_not, z_b0, z_b1, z_b01, rGK0 hGK, rGK1 hGK, rGK2 hGK, rGK3 hGK, rGK4 hGK, rGK5 hGK, rGK6 hGK, rGK7 hGK, rGK8 hGK, rGK9 hGK, kGK0, kd2, kd3, kd9, kd11, r2_0 hT2, r2_1 hT2, r2_2 hT2, H1, e, if_true, if_false]
        · simp only [s286_0, s286_1, s286_2, s286_5, s286_8, s286_9, s286_10, s286_13, s286_16, s286_17, s286_18, s286_19, s286_20, s286_23, s286_24, s286_25, s286_26, s286_27, s286_30, s286_31, s286_34, s286_35, s286_36, s286_37, s286_40, s286_43, s286_44, s286_47, s286_48, s286_49, s286_52, s286_54, zps_0, zps_1, zps_2, zps_3, zps_9, Option.bind_some, Option.bind_none, Int.reduceEq, Int.reduceNe, Int.reduceLT, Int.reduceLE, Int.reduceNeg, Int.reduceAdd, Int.reduceSub, Int.reduceMul, reduceIte, if_true, if_false, true_and, and_true, false_and, and_false, or_true, true_or, or_false, false_or, not_true_eq_false, not_false_eq_true, ite_not, z_b0, z_b1, z_b01, rMK0 hM, rMK1 hM, rMK2 hM, rMK3 hM, rMK4 hM, rMK5 hM, rMK6 hM, rMK7 hM, rMK8 hM, rMK9 hM, rMK10 hM, rMK11 hM, rMK12 hM, rMK13 hM, rMK14 hM, rMK15 hM, rMK16 hM, rMK17 hM, rMK18 hM, rMK19 hM, rMK20 hM, rMK21 hM, rMK22 hM, rMK23 hM, rMK24 hM, rMK25 hM, rMK26 hM, rMK27 hM, rMK28 hM, rMK29 hM, rMK30 hM, rMK31 hM, rMK32 hM, rMK33 hM, rMK34 hM, rMK35 hM, rMK36 hM, rMK37 hM, rMK38 hM, rMK39 hM, rMK40 hM, rMK41 hM, rMK42 hM, rMK43 hM, rMK44 hM, rMK45 hM, rMK46 hM, rMK47 hM, rMK48 hM, rMK49 hM, rMK50 hM, rMK51 hM, kMK0, kMK1, kMK2, kMK3, kMK4, kMK5, kMK6, kMK7, kMK8, kMK9, kMK10, kMK11, kMK12, kMK13, kMK14, kMK15, kMK16, kMK17, kMK18, kMK19, kMK20, kMK21, kMK22, kMK23, kMK24, kMK25, kMK26, kMK27, kMK28, kMK29, kMK30, kMK31, kMK32, kMK33, kMK34, kMK35, kMK36, kMK37, kMK38, kMK39, kMK40, kMK41, kMK42, kMK43, kMK44, kMK45, kMK46, kMK47, kMK48, kMK49, kMK50, kMK51, kMK52, kMK53, kMK54, kMK55, kMK56, kMK57, kMK58, kMK59, kMK60, kMK61, kMK62, kMK63, kMK64, kMK65, kMK66, kMK67, kMK68, kMK69, kMK70, kMK71, kMK72, kMK73, kMK74, kMK75, kMK76, kMK77, kMK78, kMK79, kMK80, kMK81, kMK82, kMK83, kMK84, kMK85, kMK86, kMK87, kMK88, kMK89, kMK90, kMK91, kMK92, kMK93, kMK94, kMK95, kMK96, kMK97, kMK98, kMK99, kMK100, kMK101, kMK102, kMK103, kMK104, I1, e, if_true, if_false]
      · have ha' : 0 ≤ a ∧ a < 64 := by omega
        have hb' : 0 ≤ b ∧ b < 64 := by omega
        have ha8 : 0 ≤ a ∧ a < 88 := by omega
        obtain ⟨m1, G1, ct, r1, k1, ld, d7⟩ := tz_byTram h hb'
        have RE := tz_reaches (m := m1) hWK a
        have TF := tz_timeFrom (m := m1) hWK a
        rw [if_pos ha8, (ct.2.2.2.2 a ha8.1 ha8.2).1] at RE TF
        have r100 : m1 100 = m 100 := r1 100 (by decide) (by decide) (by decide) (by decide) (by decide)
        have V1 : MV m1 := by unfold MV mN; rw [r100, r1 101 (by decide) (by decide) (by decide) (by decide) (by decide), r1 102 (by decide) (by decide) (by decide) (by decide) (by decide), r1 103 (by decide) (by decide) (by decide) (by decide) (by decide)]; exact hT.1.2.1
        have eN : mN m1 = mN m := by unfold mN; rw [r100]
        have J1 := tz_isPlot (R := R) (m := m1) hM V1 a
        have J2 := tz_isPlot (R := R) (m := m1) hM V1 b
        rw [eN, if_pos ha] at J1
        rw [eN, if_pos hb] at J2
        have qc : zqc (wTw m) (wTw m1) := wTw_qc r100 (fun b _ => r1 b (by omega) (by omega) (by omega) (by omega) (by omega))
        have CL : ev 287 0 [(2, 100), (9, 0)] [] R (zup m1 100 56 1) = some ((9, 0), R, wTw m1) := by
          have := tz_mclearC (R := R) (y := zup m1 100 56 1) hM
          rw [this, zup_row (by decide)]
          rfl
        obtain ⟨D, N, LW1, hD⟩ := tz_mlayWay (R := R) (y := wTw m1) hM (wTw_V V1) (wTw_Cr m1) ha' hb'
        rw [pD_c qc] at LW1 hD
        have rel : Rel R (VD (wTw m1) D N) S0 (K + 1) := by
          obtain ⟨-, s2, s3⟩ := wTw_rows m1
          have vo : ∀ b, b ≠ 133 → b ≠ 134 → VD (wTw m1) D N b = wTw m1 b := fun b b1 b2 => by unfold VD; rw [zpr_ne b2, zpr_ne b1]
          have q : ∀ b, b ≠ 100 → b < 133 ∨ 138 < b → VD (wTw m1) D N b = m1 b := fun b b1 b2 => by rw [vo b (by omega) (by omega), s3 b (by omega) b1]
          refine Rel_way h ⟨?_, fun _ => ?_, ?_⟩ (fun b hb => by rw [q b (by omega) (by omega), r1 b (by omega) (by omega) (by omega) (by omega) (by omega)]) (by rw [q 70 (by decide) (by omega)]; exact k1 1 (by decide) (by decide)) (fun k hk => by rw [vo 100 (by decide) (by decide), wTw_k m1 k (by omega), r100])
          · rw [q 70 (by decide) (by omega), q 3 (by decide) (by omega), d7, r1 3 (by decide) (by decide) (by decide) (by decide) (by decide)]; exact Int.le_refl _
          · exact LDok_c (q 3 (by decide) (by omega)) (q 4 (by decide) (by omega)) (q 5 (by decide) (by omega)) (q 73 (by decide) (by omega)) (q 74 (by decide) (by omega)) ld
          · rw [q 75 (by decide) (by omega), r1 75 (by decide) (by decide) (by decide) (by decide) (by decide)]; exact hWL.2.2
        by_cases r : pD (wTw m) b a < 1000000
        · rw [if_pos r] at RE LW1
          have da := hD a ha8.1 ha8.2
          have va : VD (wTw m1) D N 133 a = pD (wTw m) b a := by unfold VD; rw [zpr_ne (by decide), zpr_at]; exact da
          refine ⟨pD (wTw m) b a, R, m1, _, ?_, ?_, rel, fun _ _ _ => rfl⟩
          · simp only [s207_0, s207_1, s207_4, s207_7, s207_8, s207_11, s207_14, s207_15, s207_18, s207_21, s207_22, s207_25, s207_28, s207_29, s207_30, s207_31, s207_32, s207_35, s207_36, s207_37, s207_38, s207_41, s207_42, s207_43, s207_46, s207_47, s207_50, s207_51, s207_54, s207_57, s207_58, s207_61, s207_62, s207_65, s207_68, s207_70, zps_0, zps_1, zps_2, zps_3, zps_9, Option.bind_some, Option.bind_none, Int.reduceEq, Int.reduceNe, Int.reduceLT, Int.reduceLE, Int.reduceNeg, Int.reduceAdd, Int.reduceSub, Int.reduceMul, reduceIte, if_true, if_false, true_and, and_true, false_and, and_false, or_true, true_or, or_false, false_or, not_true_eq_false, not_false_eq_true, ite_not, z_b0, z_b1, z_b01, rGK0 hGK, rGK1 hGK, rGK2 hGK, rGK3 hGK, rGK4 hGK, rGK5 hGK, rGK6 hGK, rGK7 hGK, rGK8 hGK, rGK9 hGK, kGK0, kd2, kd3, kd9, kd11, r2_0 hT2, r2_1 hT2, r2_2 hT2, rWK0 hWK, rWK1 hWK, rWK2 hWK, rWK3 hWK, rWK4 hWK, rWK5 hWK, rWK6 hWK, rWK7 hWK, rWK8 hWK, kWK0, kWK1, kWK2, kWK3, kWK4, kWK5, kWK6, kWK7, kWK8, kWK9, kWK10, kWK11, kWK12, kWK13, kWK14, kWK15, kWK16, H1, H2, e, G1, RE, TF, if_true, if_false]
          · simp only [s286_0, s286_1, s286_2, s286_5, s286_8, s286_9, s286_10, s286_13, s286_16, s286_17, s286_18, s286_19, s286_20, s286_23, s286_24, s286_25, s286_26, s286_27, s286_30, s286_31, s286_34, s286_35, s286_36, s286_37, s286_40, s286_43, s286_44, s286_47, s286_48, s286_49, s286_52, s286_54, zps_0, zps_1, zps_2, zps_3, zps_9, Option.bind_some, Option.bind_none, Int.reduceEq, Int.reduceNe, Int.reduceLT, Int.reduceLE, Int.reduceNeg, Int.reduceAdd, Int.reduceSub, Int.reduceMul, reduceIte, if_true, if_false, true_and, and_true, false_and, and_false, or_true, true_or, or_false, false_or, not_true_eq_false, not_false_eq_true, ite_not, z_b0, z_b1, z_b01, rMK0 hM, rMK1 hM, rMK2 hM, rMK3 hM, rMK4 hM, rMK5 hM, rMK6 hM, rMK7 hM, rMK8 hM, rMK9 hM, rMK10 hM, rMK11 hM, rMK12 hM, rMK13 hM, rMK14 hM, rMK15 hM, rMK16 hM, rMK17 hM, rMK18 hM, rMK19 hM, rMK20 hM, rMK21 hM, rMK22 hM, rMK23 hM, rMK24 hM, rMK25 hM, rMK26 hM, rMK27 hM, rMK28 hM, rMK29 hM, rMK30 hM, rMK31 hM, rMK32 hM, rMK33 hM, rMK34 hM, rMK35 hM, rMK36 hM, rMK37 hM, rMK38 hM, rMK39 hM, rMK40 hM, rMK41 hM, rMK42 hM, rMK43 hM, rMK44 hM, rMK45 hM, rMK46 hM, rMK47 hM, rMK48 hM, rMK49 hM, rMK50 hM, rMK51 hM, kMK0, kMK1, kMK2, kMK3, kMK4, kMK5, kMK6, kMK7, kMK8, kMK9, kMK10, kMK11, kMK12, kMK13, kMK14, kMK15, kMK16, kMK17, kMK18, kMK19, kMK20, kMK21, kMK22, kMK23, kMK24, kMK25, kMK26, kMK27, kMK28, kMK29, kMK30, kMK31, kMK32, kMK33, kMK34, kMK35, kMK36, kMK37, kMK38, kMK39, kMK40, kMK41, kMK42, kMK43, kMK44, kMK45, kMK46, kMK47, kMK48, kMK49, kMK50, kMK51, kMK52, kMK53, kMK54, kMK55, kMK56, kMK57, kMK58, kMK59, kMK60, kMK61, kMK62, kMK63, kMK64, kMK65, kMK66, kMK67, kMK68, kMK69, kMK70, kMK71, kMK72, kMK73, kMK74, kMK75, kMK76, kMK77, kMK78, kMK79, kMK80, kMK81, kMK82, kMK83, kMK84, kMK85, kMK86, kMK87, kMK88, kMK89, kMK90, kMK91, kMK92, kMK93, kMK94, kMK95, kMK96, kMK97, kMK98, kMK99, kMK100, kMK101, kMK102, kMK103, kMK104, J1, J2, e, CL, LW1, ha8, va, and_self, if_true, if_false]
        · rw [if_neg r] at RE LW1
          refine ⟨-4, R, m1, _, ?_, ?_, rel, fun _ _ _ => rfl⟩
          · simp only [s207_0, s207_1, s207_4, s207_7, s207_8, s207_11, s207_14, s207_15, s207_18, s207_21, s207_22, s207_25, s207_28, s207_29, s207_30, s207_31, s207_32, s207_35, s207_36, s207_37, s207_38, s207_41, s207_42, s207_43, s207_46, s207_47, s207_50, s207_51, s207_54, s207_57, s207_58, s207_61, s207_62, s207_65, s207_68, s207_70, zps_0, zps_1, zps_2, zps_3, zps_9, Option.bind_some, Option.bind_none, Int.reduceEq, Int.reduceNe, Int.reduceLT, Int.reduceLE, Int.reduceNeg, Int.reduceAdd, Int.reduceSub, Int.reduceMul, reduceIte, if_true, if_false, true_and, and_true, false_and, and_false, or_true, true_or, or_false, false_or, not_true_eq_false, not_false_eq_true, ite_not, z_b0, z_b1, z_b01, rGK0 hGK, rGK1 hGK, rGK2 hGK, rGK3 hGK, rGK4 hGK, rGK5 hGK, rGK6 hGK, rGK7 hGK, rGK8 hGK, rGK9 hGK, kGK0, kd2, kd3, kd9, kd11, r2_0 hT2, r2_1 hT2, r2_2 hT2, rWK0 hWK, rWK1 hWK, rWK2 hWK, rWK3 hWK, rWK4 hWK, rWK5 hWK, rWK6 hWK, rWK7 hWK, rWK8 hWK, kWK0, kWK1, kWK2, kWK3, kWK4, kWK5, kWK6, kWK7, kWK8, kWK9, kWK10, kWK11, kWK12, kWK13, kWK14, kWK15, kWK16, H1, H2, e, G1, RE, if_true, if_false]
          · simp only [s286_0, s286_1, s286_2, s286_5, s286_8, s286_9, s286_10, s286_13, s286_16, s286_17, s286_18, s286_19, s286_20, s286_23, s286_24, s286_25, s286_26, s286_27, s286_30, s286_31, s286_34, s286_35, s286_36, s286_37, s286_40, s286_43, s286_44, s286_47, s286_48, s286_49, s286_52, s286_54, zps_0, zps_1, zps_2, zps_3, zps_9, Option.bind_some, Option.bind_none, Int.reduceEq, Int.reduceNe, Int.reduceLT, Int.reduceLE, Int.reduceNeg, Int.reduceAdd, Int.reduceSub, Int.reduceMul, reduceIte, if_true, if_false, true_and, and_true, false_and, and_false, or_true, true_or, or_false, false_or, not_true_eq_false, not_false_eq_true, ite_not, z_b0, z_b1, z_b01, rMK0 hM, rMK1 hM, rMK2 hM, rMK3 hM, rMK4 hM, rMK5 hM, rMK6 hM, rMK7 hM, rMK8 hM, rMK9 hM, rMK10 hM, rMK11 hM, rMK12 hM, rMK13 hM, rMK14 hM, rMK15 hM, rMK16 hM, rMK17 hM, rMK18 hM, rMK19 hM, rMK20 hM, rMK21 hM, rMK22 hM, rMK23 hM, rMK24 hM, rMK25 hM, rMK26 hM, rMK27 hM, rMK28 hM, rMK29 hM, rMK30 hM, rMK31 hM, rMK32 hM, rMK33 hM, rMK34 hM, rMK35 hM, rMK36 hM, rMK37 hM, rMK38 hM, rMK39 hM, rMK40 hM, rMK41 hM, rMK42 hM, rMK43 hM, rMK44 hM, rMK45 hM, rMK46 hM, rMK47 hM, rMK48 hM, rMK49 hM, rMK50 hM, rMK51 hM, kMK0, kMK1, kMK2, kMK3, kMK4, kMK5, kMK6, kMK7, kMK8, kMK9, kMK10, kMK11, kMK12, kMK13, kMK14, kMK15, kMK16, kMK17, kMK18, kMK19, kMK20, kMK21, kMK22, kMK23, kMK24, kMK25, kMK26, kMK27, kMK28, kMK29, kMK30, kMK31, kMK32, kMK33, kMK34, kMK35, kMK36, kMK37, kMK38, kMK39, kMK40, kMK41, kMK42, kMK43, kMK44, kMK45, kMK46, kMK47, kMK48, kMK49, kMK50, kMK51, kMK52, kMK53, kMK54, kMK55, kMK56, kMK57, kMK58, kMK59, kMK60, kMK61, kMK62, kMK63, kMK64, kMK65, kMK66, kMK67, kMK68, kMK69, kMK70, kMK71, kMK72, kMK73, kMK74, kMK75, kMK76, kMK77, kMK78, kMK79, kMK80, kMK81, kMK82, kMK83, kMK84, kMK85, kMK86, kMK87, kMK88, kMK89, kMK90, kMK91, kMK92, kMK93, kMK94, kMK95, kMK96, kMK97, kMK98, kMK99, kMK100, kMK101, kMK102, kMK103, kMK104, J1, J2, e, CL, LW1, if_true, if_false]
    · rw [if_neg hb] at H2 I2
      refine ⟨-1, R, m, m, ?_, ?_, Rel_K h (by omega), fun _ _ _ => rfl⟩
      · simp only [s207_0, s207_1, s207_4, s207_7, s207_8, s207_11, s207_14, s207_15, s207_18, s207_21, s207_22, s207_25, s207_28, s207_29, s207_30, s207_31, s207_32, s207_35, s207_36, s207_37, s207_38, s207_41, s207_42, s207_43, s207_46, s207_47, s207_50, s207_51, s207_54, s207_57, s207_58, s207_61, s207_62, s207_65, s207_68, s207_70, zps_0, zps_1, zps_2, zps_3, zps_9, Option.bind_some, Option.bind_none, Int.reduceEq, Int.reduceNe, Int.reduceLT, Int.reduceLE, Int.reduceNeg, Int.reduceAdd, Int.reduceSub, Int.reduceMul, reduceIte, if_true, if_false, true_and, and_true, false_and, and_false, or_true, true_or, or_false, false_or, not_true_eq_false, not_false_eq_true, ite_not, z_b0, z_b1, z_b01, rGK0 hGK, rGK1 hGK, rGK2 hGK, rGK3 hGK, rGK4 hGK, rGK5 hGK, rGK6 hGK, rGK7 hGK, rGK8 hGK, rGK9 hGK, kGK0, kd2, kd3, kd9, kd11, r2_0 hT2, r2_1 hT2, r2_2 hT2, H1, H2, if_true, if_false]
      · simp only [s286_0, s286_1, s286_2, s286_5, s286_8, s286_9, s286_10, s286_13, s286_16, s286_17, s286_18, s286_19, s286_20, s286_23, s286_24, s286_25, s286_26, s286_27, s286_30, s286_31, s286_34, s286_35, s286_36, s286_37, s286_40, s286_43, s286_44, s286_47, s286_48, s286_49, s286_52, s286_54, zps_0, zps_1, zps_2, zps_3, zps_9, Option.bind_some, Option.bind_none, Int.reduceEq, Int.reduceNe, Int.reduceLT, Int.reduceLE, Int.reduceNeg, Int.reduceAdd, Int.reduceSub, Int.reduceMul, reduceIte, if_true, if_false, true_and, and_true, false_and, and_false, or_true, true_or, or_false, false_or, not_true_eq_false, not_false_eq_true, ite_not, z_b0, z_b1, z_b01, rMK0 hM, rMK1 hM, rMK2 hM, rMK3 hM, rMK4 hM, rMK5 hM, rMK6 hM, rMK7 hM, rMK8 hM, rMK9 hM, rMK10 hM, rMK11 hM, rMK12 hM, rMK13 hM, rMK14 hM, rMK15 hM, rMK16 hM, rMK17 hM, rMK18 hM, rMK19 hM, rMK20 hM, rMK21 hM, rMK22 hM, rMK23 hM, rMK24 hM, rMK25 hM, rMK26 hM, rMK27 hM, rMK28 hM, rMK29 hM, rMK30 hM, rMK31 hM, rMK32 hM, rMK33 hM, rMK34 hM, rMK35 hM, rMK36 hM, rMK37 hM, rMK38 hM, rMK39 hM, rMK40 hM, rMK41 hM, rMK42 hM, rMK43 hM, rMK44 hM, rMK45 hM, rMK46 hM, rMK47 hM, rMK48 hM, rMK49 hM, rMK50 hM, rMK51 hM, kMK0, kMK1, kMK2, kMK3, kMK4, kMK5, kMK6, kMK7, kMK8, kMK9, kMK10, kMK11, kMK12, kMK13, kMK14, kMK15, kMK16, kMK17, kMK18, kMK19, kMK20, kMK21, kMK22, kMK23, kMK24, kMK25, kMK26, kMK27, kMK28, kMK29, kMK30, kMK31, kMK32, kMK33, kMK34, kMK35, kMK36, kMK37, kMK38, kMK39, kMK40, kMK41, kMK42, kMK43, kMK44, kMK45, kMK46, kMK47, kMK48, kMK49, kMK50, kMK51, kMK52, kMK53, kMK54, kMK55, kMK56, kMK57, kMK58, kMK59, kMK60, kMK61, kMK62, kMK63, kMK64, kMK65, kMK66, kMK67, kMK68, kMK69, kMK70, kMK71, kMK72, kMK73, kMK74, kMK75, kMK76, kMK77, kMK78, kMK79, kMK80, kMK81, kMK82, kMK83, kMK84, kMK85, kMK86, kMK87, kMK88, kMK89, kMK90, kMK91, kMK92, kMK93, kMK94, kMK95, kMK96, kMK97, kMK98, kMK99, kMK100, kMK101, kMK102, kMK103, kMK104, I1, I2, if_true, if_false]
  · rw [if_neg ha] at H1 I1
    refine ⟨-1, R, m, m, ?_, ?_, Rel_K h (by omega), fun _ _ _ => rfl⟩
    · simp only [s207_0, s207_1, s207_4, s207_7, s207_8, s207_11, s207_14, s207_15, s207_18, s207_21, s207_22, s207_25, s207_28, s207_29, s207_30, s207_31, s207_32, s207_35, s207_36, s207_37, s207_38, s207_41, s207_42, s207_43, s207_46, s207_47, s207_50, s207_51, s207_54, s207_57, s207_58, s207_61, s207_62, s207_65, s207_68, s207_70, zps_0, zps_1, zps_2, zps_3, zps_9, Option.bind_some, Option.bind_none, Int.reduceEq, Int.reduceNe, Int.reduceLT, Int.reduceLE, Int.reduceNeg, Int.reduceAdd, Int.reduceSub, Int.reduceMul, reduceIte, if_true, if_false, true_and, and_true, false_and, and_false, or_true, true_or, or_false, false_or, not_true_eq_false, not_false_eq_true, ite_not, z_b0, z_b1, z_b01, rGK0 hGK, rGK1 hGK, rGK2 hGK, rGK3 hGK, rGK4 hGK, rGK5 hGK, rGK6 hGK, rGK7 hGK, rGK8 hGK, rGK9 hGK, kGK0, kd2, kd3, kd9, kd11, r2_0 hT2, r2_1 hT2, r2_2 hT2, H1, if_true, if_false]
    · simp only [s286_0, s286_1, s286_2, s286_5, s286_8, s286_9, s286_10, s286_13, s286_16, s286_17, s286_18, s286_19, s286_20, s286_23, s286_24, s286_25, s286_26, s286_27, s286_30, s286_31, s286_34, s286_35, s286_36, s286_37, s286_40, s286_43, s286_44, s286_47, s286_48, s286_49, s286_52, s286_54, zps_0, zps_1, zps_2, zps_3, zps_9, Option.bind_some, Option.bind_none, Int.reduceEq, Int.reduceNe, Int.reduceLT, Int.reduceLE, Int.reduceNeg, Int.reduceAdd, Int.reduceSub, Int.reduceMul, reduceIte, if_true, if_false, true_and, and_true, false_and, and_false, or_true, true_or, or_false, false_or, not_true_eq_false, not_false_eq_true, ite_not, z_b0, z_b1, z_b01, rMK0 hM, rMK1 hM, rMK2 hM, rMK3 hM, rMK4 hM, rMK5 hM, rMK6 hM, rMK7 hM, rMK8 hM, rMK9 hM, rMK10 hM, rMK11 hM, rMK12 hM, rMK13 hM, rMK14 hM, rMK15 hM, rMK16 hM, rMK17 hM, rMK18 hM, rMK19 hM, rMK20 hM, rMK21 hM, rMK22 hM, rMK23 hM, rMK24 hM, rMK25 hM, rMK26 hM, rMK27 hM, rMK28 hM, rMK29 hM, rMK30 hM, rMK31 hM, rMK32 hM, rMK33 hM, rMK34 hM, rMK35 hM, rMK36 hM, rMK37 hM, rMK38 hM, rMK39 hM, rMK40 hM, rMK41 hM, rMK42 hM, rMK43 hM, rMK44 hM, rMK45 hM, rMK46 hM, rMK47 hM, rMK48 hM, rMK49 hM, rMK50 hM, rMK51 hM, kMK0, kMK1, kMK2, kMK3, kMK4, kMK5, kMK6, kMK7, kMK8, kMK9, kMK10, kMK11, kMK12, kMK13, kMK14, kMK15, kMK16, kMK17, kMK18, kMK19, kMK20, kMK21, kMK22, kMK23, kMK24, kMK25, kMK26, kMK27, kMK28, kMK29, kMK30, kMK31, kMK32, kMK33, kMK34, kMK35, kMK36, kMK37, kMK38, kMK39, kMK40, kMK41, kMK42, kMK43, kMK44, kMK45, kMK46, kMK47, kMK48, kMK49, kMK50, kMK51, kMK52, kMK53, kMK54, kMK55, kMK56, kMK57, kMK58, kMK59, kMK60, kMK61, kMK62, kMK63, kMK64, kMK65, kMK66, kMK67, kMK68, kMK69, kMK70, kMK71, kMK72, kMK73, kMK74, kMK75, kMK76, kMK77, kMK78, kMK79, kMK80, kMK81, kMK82, kMK83, kMK84, kMK85, kMK86, kMK87, kMK88, kMK89, kMK90, kMK91, kMK92, kMK93, kMK94, kMK95, kMK96, kMK97, kMK98, kMK99, kMK100, kMK101, kMK102, kMK103, kMK104, I1, if_true, if_false]
end TIMEX
