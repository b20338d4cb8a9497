/-! laws -/
section LAWSX
variable {R R' m x y w z : zM} {a p q S0 K n : Int} {f L L2 M M2 : Int → Int}
theorem RL_c2 (h1 : ∀ j q, 0 ≤ j → j < n → 0 ≤ q → q < 7 → L2 (7 * j + q) = L (7 * j + q)) (h2 : ∀ j q, 0 ≤ j → j < n → 0 ≤ q → q < 7 → M2 (7 * j + q) = M (7 * j + q)) (h : RL n L M) : RL n L2 M2 := by
  intro k i k0 k1 i0 i1
  have h0 := h1 k 0 k0 k1 (by omega) (by omega)
  rw [Int.add_zero] at h0
  rw [h2 k i k0 k1 i0 i1, h1 k i k0 k1 i0 i1, h0]
  exact h k i k0 k1 i0 i1
theorem Tk_ex (hXK : XK R) (f : Int → Int) {n : Int} (h : 0 ≤ n ∧ n ≤ 320) : ∃ (m0 : zM) (N : Int), Tk m0 f n N := by
  obtain ⟨m0, N, -, -, -, s4⟩ := tz_split (R := R) (m := fun a k => if a = 64 then f k else n) (f := f) (n := n) hXK rfl rfl h
  exact ⟨m0, N, s4.2.1, s4.2.2.1, s4.2.2.2.1, s4.2.2.2.2⟩
theorem Rel_tp2 (h : Rel R m S0 K) (hP : TPe x) (g : ∀ b, b < 63 ∨ (69 < b ∧ b < 100) ∨ (100 < b ∧ b < 120) ∨ 121 < b → x b = m b) (hk : ∀ k, k < 27 ∨ 36 < k → x 100 k = m 100 k) : Rel R x S0 (K + 1) := by
  obtain ⟨hRT, hA, hT, hKA, hPA, -, hWT, hWL, ⟨ntr, hTR⟩, ⟨npl, hPL⟩, hNT, hSH⟩ := h
  have k0 := hk 0 (by decide)
  have k1 := hk 1 (by decide)
  exact ⟨hRT, ARl_c (fun b b0 b1 => g b (by omega)) (by rw [g 58 (by omega)]) (fun b b0 => g b (by omega)) (fun b b0 => g b (by omega)) ⟨k0, k1, hk 6 (by decide), hk 10 (by decide), hk 19 (by decide)⟩ hA, TR_c (fun a a0 a1 => g a (by omega)) ⟨fun a a0 a1 => g a (by omega), k0, k1, hk 6 (by decide), hk 7 (by decide), hk 8 (by decide), hk 10 (by decide)⟩ hT, KAn_c (g 3 (by omega)) (fun b b0 b1 => g b (by omega)) hKA (by omega), PAs_c (by rw [g 2 (by omega)]) (g 27 (by omega)) (g 28 (by omega)) (g 118 (by omega)) (g 119 (by omega)) k0 k1 hPA, hP, WTr_c (by rw [g 70 (by omega)]) (g 71 (by omega)) (g 72 (by omega)) (hk 51 (by decide)) (g 131 (by omega)) (g 132 (by omega)) k0 k1 hWT, WLd_c (g 3 (by omega)) (g 4 (by omega)) (g 5 (by omega)) (g 73 (by omega)) (g 74 (by omega)) (g 75 (by omega)) (by rw [g 70 (by omega)]) hWL, ⟨ntr, TRi_c hT.1.2.1 (fun b b0 b1 => g b (by omega)) (g 139 (by omega)) (g 140 (by omega)) (hk 62 (by decide)) (by rw [g 3 (by omega)]; exact Int.le_refl _) (fun _ => ⟨⟨k0, k1⟩, fun p p0 p1 => by rw [g 101 (by omega), g 102 (by omega)]; exact ⟨rfl, rfl⟩⟩) hTR⟩, ⟨npl, PLa_c (fun b b0 b1 _ => g b (by omega)) (by rw [g 87 (by omega)]) (g 143 (by omega)) (g 144 (by omega)) (g 145 (by omega)) (hk 67 (by decide)) k0 k1 hPL⟩, NTe_c (fun b b0 b1 => g b (by omega)) (by rw [g 91 (by omega)]) (hk 71 (by decide)) (fun b b0 b1 => g b (by omega)) hNT, SHe_c (fun b b0 b1 => g b (by omega)) (fun b b0 b1 => g b (by omega)) hSH⟩
theorem ZC_c (h1 : x 122 = m 122) (h2 : x 123 = m 123) (h : ZC m) : ZC x := by
  unfold ZC at *
  rw [h1, h2]
  exact h
/-- the model begins to read -/
theorem tz_mlaws0 (hM : MK R) (hZ : ZC x) (hf : x 120 = f) (h320 : 0 ≤ n ∧ n ≤ 320) (hb : ∀ i, 0 ≤ i → i < n → 0 ≤ f i ∧ f i ≤ 255) (hn : x 100 27 = n) (hF : ¬ x 100 19 = 60) : ∃ F : Int → Int, ev 241 0 [(2, 100), (9, 0)] [] R x = ev 241 31 [(2, 100), (9, 0)] [] R (WM x F (x 121)) ∧ (∀ k, k < 27 ∨ 36 < k → F k = x 100 k) ∧ F 27 = n ∧ F 36 = 0 ∧ MO F f n 0 := by
  obtain ⟨F, e1, e2, e3⟩ := tz_mnext (R := R) (w := x) hM hZ hf h320 hb (F0 := zrw (zrw (zrw (x 100) 29 0) 31 0) 36 0) (by rw [zrw_ne (by decide), zrw_ne (by decide), zrw_ne (by decide), hn]) (by rw [zrw_ne (by decide), zrw_ne (by decide), zrw_at]) (a := 0) (by rw [zrw_ne (by decide), zrw_at]) ⟨by omega, h320.1⟩
  refine ⟨F, ?_, fun k hk => by rw [e2 k (by omega), zrw_ne (by omega), zrw_ne (by omega), zrw_ne (by omega)], by rw [e2 27 (by omega), zrw_ne (by decide), zrw_ne (by decide), zrw_ne (by decide), hn], by rw [e2 36 (by omega), zrw_at], e3⟩
  have eW : WM x F (x 121) = zpr x 100 F := by unfold WM; rw [zpr_self]
  rw [eW]
  simp only [s241_0, s241_1, s241_4, s241_6, s241_9, s241_11, s241_12, s241_13, s241_14, s241_17, s241_18, s241_19, s241_22, s241_23, s241_24, s241_27, s241_28, s241_32, s241_35, s241_38, s241_39, s241_42, s241_45, s241_46, s241_49, s241_52, s241_53, s241_54, s241_57, s241_58, s241_59, s241_62, s241_65, s241_66, s241_69, s241_72, s241_74, s241_75, s241_78, s241_79, s241_80, s241_81, s241_82, s241_85, s241_88, s241_89, s241_91, s241_93, s241_96, s241_97, s241_100, s241_101, s241_102, s241_105, s241_106, s241_107, s241_108, s241_109, s241_112, s241_114, s241_115, s241_118, s241_119, s241_120, s241_121, s241_122, s241_125, s241_126, s241_127, s241_128, s241_131, s241_134, s241_135, s241_136, s241_137, s241_140, s241_141, s241_142, s241_143, s241_146, s241_147, s241_150, zps_0, zps_1, zps_2, zps_3, zps_9, Option.bind_some, Option.bind_none, Int.reduceEq, Int.reduceNe, Int.reduceLT, Int.reduceLE, Int.reduceNeg, Int.reduceAdd, Int.reduceSub, Int.reduceMul, reduceIte, if_true, if_false, true_and, and_true, false_and, and_false, or_true, true_or, or_false, false_or, not_true_eq_false, not_false_eq_true, ite_not, z_b0, z_b1, z_b01, rMK0 hM, rMK1 hM, rMK2 hM, rMK3 hM, rMK4 hM, rMK5 hM, rMK6 hM, rMK7 hM, rMK8 hM, rMK9 hM, rMK10 hM, rMK11 hM, rMK12 hM, rMK13 hM, rMK14 hM, rMK15 hM, rMK16 hM, rMK17 hM, rMK18 hM, rMK19 hM, rMK20 hM, rMK21 hM, rMK22 hM, rMK23 hM, rMK24 hM, rMK25 hM, rMK26 hM, rMK27 hM, rMK28 hM, rMK29 hM, rMK30 hM, rMK31 hM, rMK32 hM, rMK33 hM, rMK34 hM, rMK35 hM, rMK36 hM, rMK37 hM, rMK38 hM, rMK39 hM, rMK40 hM, rMK41 hM, rMK42 hM, rMK43 hM, rMK44 hM, rMK45 hM, rMK46 hM, rMK47 hM, rMK48 hM, rMK49 hM, rMK50 hM, rMK51 hM, kMK0, kMK1, kMK2, kMK3, kMK4, kMK5, kMK6, kMK7, kMK8, kMK9, kMK10, kMK11, kMK12, kMK13, kMK14, kMK15, kMK16, kMK17, kMK18, kMK19, kMK20, kMK21, kMK22, kMK23, kMK24, kMK25, kMK26, kMK27, kMK28, kMK29, kMK30, kMK31, kMK32, kMK33, kMK34, kMK35, kMK36, kMK37, kMK38, kMK39, kMK40, kMK41, kMK42, kMK43, kMK44, kMK45, kMK46, kMK47, kMK48, kMK49, kMK50, kMK51, kMK52, kMK53, kMK54, kMK55, kMK56, kMK57, kMK58, kMK59, kMK60, kMK61, kMK62, kMK63, kMK64, kMK65, kMK66, kMK67, kMK68, kMK69, kMK70, kMK71, kMK72, kMK73, kMK74, kMK75, kMK76, kMK77, kMK78, kMK79, kMK80, kMK81, kMK82, kMK83, kMK84, kMK85, kMK86, kMK87, kMK88, kMK89, kMK90, kMK91, kMK92, kMK93, kMK94, kMK95, kMK96, kMK97, kMK98, kMK99, kMK100, kMK101, kMK102, kMK103, kMK104, hF, zup_zpr, zpr_at, zpr_zpr, e1, if_true, if_false]
theorem tz_mlaws1 (hXK : XK R) (hL : LK R 68) (hM : MK R) (hZ : ZC x) (hf : x 120 = f) (h320 : 0 ≤ n ∧ n ≤ 320) (hb : ∀ i, 0 ≤ i → i < n → 0 ≤ f i ∧ f i ≤ 255) (hn : x 100 27 = n) (hF : ¬ x 100 19 = 60) (L : Int → Int) : match pAll f n 322 0 0 L with | .ok (nl', L') => ∃ F X : Int → Int, ev 241 0 [(2, 100), (9, 0)] [] R x = ev 241 52 [(2, 100), (9, 0)] [] R (WM x F X) ∧ (∀ k, k < 27 ∨ 36 < k → F k = x 100 k) ∧ F 36 = nl' ∧ F 29 = 0 ∧ RL nl' L' X | .error e => ∃ F X : Int → Int, ev 241 0 [(2, 100), (9, 0)] [] R x = ev 241 52 [(2, 100), (9, 0)] [] R (WM x F X) ∧ (∀ k, k < 27 ∨ 36 < k → F k = x 100 k) ∧ MX F e := by
  obtain ⟨F, e1, e2, e3, e4, e5⟩ := tz_mlaws0 (R := R) hM hZ hf h320 hb hn hF
  obtain ⟨m0, N, hTk⟩ := Tk_ex hXK f h320
  have A := tz_mAll (R := R) (w := x) hXK hL hM ⟨hZ, hf, h320, hb⟩ hTk 322 0 0 L F (x 121) (by omega) (by have := hTk.1; omega) (by have := hTk.1; omega) e3 e5 e4 (by omega) (by omega) (fun k i k0 k1 => by omega)
  cases hp : pAll f n 322 0 0 L with
  | error e =>
    rw [hp] at A
    dsimp only at A ⊢
    obtain ⟨F', X', a1, a2, a3⟩ := A
    exact ⟨F', X', e1.trans a1, fun k hk => by rw [a2 k (by omega) (by omega), e2 k hk], a3⟩
  | ok q =>
    obtain ⟨nl', L'⟩ := q
    rw [hp] at A
    dsimp only at A ⊢
    obtain ⟨F', X', a1, a2, a3, a4, a5⟩ := A
    exact ⟨F', X', e1.trans a1, fun k hk => by rw [a2 k (by omega) (by omega), e2 k hk], a3, a4, a5⟩
/-- what the model does when the laws are read -/
theorem tz_mlaws2 (hM : MK R) {F X : Int → Int} {nl : Int} (hF : F 36 = nl) (h29 : F 29 = 0) (ha : F 19 = a) (ha2 : 0 ≤ a ∧ a < 60) : ∃ (y : zM), ev 241 52 [(2, 100), (9, 0)] [] R (WM x F X) = some ((0, nl), R, zmrec y 4 nl 0 0 0) ∧ (∀ b, b ≠ 100 → b ≠ 105 → b ≠ 117 → b ≠ 121 → y b = x b) ∧ (∀ k, k ≠ 8 → k ≠ 27 → k ≠ 28 → y 100 k = F k) ∧ y 100 27 = 0 ∧ y 100 28 = 0 ∧ y 100 8 = nl ∧ (∀ i, 0 ≤ i → i < 84 → y 105 i = X i ∧ y 117 (84 * a + i) = X i) ∧ ∀ j, ¬ (84 * a ≤ j ∧ j < 84 * a + 84) → y 117 j = x 117 j := by
  obtain ⟨G, hG⟩ : ∃ G, zrw (zrw (zrw F 27 0) 28 0) 8 nl = G := ⟨_, rfl⟩
  have g1 : zrw F 27 0 29 = 0 := by rw [zrw_ne (by decide), h29]
  have g2 : zrw (zrw F 27 0) 28 0 29 = 0 := by rw [zrw_ne (by decide), g1]
  have g3 : zrw (zrw F 27 0) 28 0 36 = nl := by rw [zrw_ne (by decide), zrw_ne (by decide), hF]
  have gk : ∀ k, k ≠ 8 → k ≠ 27 → k ≠ 28 → G k = F k := fun k k1 k2 k3 => by rw [← hG, zrw_ne k1, zrw_ne k3, zrw_ne k2]
  have c0 : ¬ (0 : Int) > 0 := by omega
  have L1 : ev 241 52 [(2, 100), (9, 0)] [] R (WM x F X) = ev 241 90 [(2, 100), (0, 0)] [] R (WM x G X) := by
    simp only [s241_0, s241_1, s241_4, s241_6, s241_9, s241_11, s241_12, s241_13, s241_14, s241_17, s241_18, s241_19, s241_22, s241_23, s241_24, s241_27, s241_28, s241_32, s241_35, s241_38, s241_39, s241_42, s241_45, s241_46, s241_49, s241_52, s241_53, s241_54, s241_57, s241_58, s241_59, s241_62, s241_65, s241_66, s241_69, s241_72, s241_74, s241_75, s241_78, s241_79, s241_80, s241_81, s241_82, s241_85, s241_88, s241_89, s241_91, s241_93, s241_96, s241_97, s241_100, s241_101, s241_102, s241_105, s241_106, s241_107, s241_108, s241_109, s241_112, s241_114, s241_115, s241_118, s241_119, s241_120, s241_121, s241_122, s241_125, s241_126, s241_127, s241_128, s241_131, s241_134, s241_135, s241_136, s241_137, s241_140, s241_141, s241_142, s241_143, s241_146, s241_147, s241_150, zps_0, zps_1, zps_2, zps_3, zps_9, Option.bind_some, Option.bind_none, Int.reduceEq, Int.reduceNe, Int.reduceLT, Int.reduceLE, Int.reduceNeg, Int.reduceAdd, Int.reduceSub, Int.reduceMul, reduceIte, if_true, if_false, true_and, and_true, false_and, and_false, or_true, true_or, or_false, false_or, not_true_eq_false, not_false_eq_true, ite_not, z_b0, z_b1, z_b01, rMK0 hM, rMK1 hM, rMK2 hM, rMK3 hM, rMK4 hM, rMK5 hM, rMK6 hM, rMK7 hM, rMK8 hM, rMK9 hM, rMK10 hM, rMK11 hM, rMK12 hM, rMK13 hM, rMK14 hM, rMK15 hM, rMK16 hM, rMK17 hM, rMK18 hM, rMK19 hM, rMK20 hM, rMK21 hM, rMK22 hM, rMK23 hM, rMK24 hM, rMK25 hM, rMK26 hM, rMK27 hM, rMK28 hM, rMK29 hM, rMK30 hM, rMK31 hM, rMK32 hM, rMK33 hM, rMK34 hM, rMK35 hM, rMK36 hM, rMK37 hM, rMK38 hM, rMK39 hM, rMK40 hM, rMK41 hM, rMK42 hM, rMK43 hM, rMK44 hM, rMK45 hM, rMK46 hM, rMK47 hM, rMK48 hM, rMK49 hM, rMK50 hM, rMK51 hM, kMK0, kMK1, kMK2, kMK3, kMK4, kMK5, kMK6, kMK7, kMK8, kMK9, kMK10, kMK11, kMK12, kMK13, kMK14, kMK15, kMK16, kMK17, kMK18, kMK19, kMK20, kMK21, kMK22, kMK23, kMK24, kMK25, kMK26, kMK27, kMK28, kMK29, kMK30, kMK31, kMK32, kMK33, kMK34, kMK35, kMK36, kMK37, kMK38, kMK39, kMK40, kMK41, kMK42, kMK43, kMK44, kMK45, kMK46, kMK47, kMK48, kMK49, kMK50, kMK51, kMK52, kMK53, kMK54, kMK55, kMK56, kMK57, kMK58, kMK59, kMK60, kMK61, kMK62, kMK63, kMK64, kMK65, kMK66, kMK67, kMK68, kMK69, kMK70, kMK71, kMK72, kMK73, kMK74, kMK75, kMK76, kMK77, kMK78, kMK79, kMK80, kMK81, kMK82, kMK83, kMK84, kMK85, kMK86, kMK87, kMK88, kMK89, kMK90, kMK91, kMK92, kMK93, kMK94, kMK95, kMK96, kMK97, kMK98, kMK99, kMK100, kMK101, kMK102, kMK103, kMK104, WM_100, WM_p100, zup_zpr, g1, g2, g3, hG, Int.le_refl, if_true, if_false]
  obtain ⟨g, h, e1, e2, e3⟩ := tz_mlcopy (R := R) (w := WM x G X) (a := a) hM (by rw [WM_100, gk 19 (by decide) (by decide) (by decide), ha]) ha2
  rw [L1, e1]
  obtain ⟨y, hy⟩ : ∃ y, zpr (zpr (WM x G X) 105 g) 117 h = y := ⟨_, rfl⟩
  rw [hy]
  have y100 : y 100 = G := by rw [← hy, zpr_ne (by decide), zpr_ne (by decide), WM_100]
  have y19 : y 100 19 = a := by rw [y100, gk 19 (by decide) (by decide) (by decide), ha]
  have y36 : y 100 36 = nl := by rw [y100, gk 36 (by decide) (by decide) (by decide), hF]
  have MR := tz_mrec (R := R) (w := y) hM (by rw [y19]; exact ha2) 4 nl 0 0 0
  have r36 : zmrec y 4 nl 0 0 0 100 36 = nl := by rw [(zmrec_rows y 4 nl 0 0 0).2.2.2.1, zrw_ne (by decide), y36]
  refine ⟨y, ?_, fun b b1 b2 b3 b4 => by rw [← hy, zpr_ne b3, zpr_ne b2, WM_ne _ _ _ b1 b4], fun k k1 k2 k3 => by rw [y100, gk k k1 k2 k3], by rw [y100, ← hG, zrw_ne (by decide), zrw_ne (by decide), zrw_at], by rw [y100, ← hG, zrw_ne (by decide), zrw_at], by rw [y100, ← hG, zrw_at], fun i i0 i1 => ?_, fun j hj => ?_⟩
  · simp only [s241_0, s241_1, s241_4, s241_6, s241_9, s241_11, s241_12, s241_13, s241_14, s241_17, s241_18, s241_19, s241_22, s241_23, s241_24, s241_27, s241_28, s241_32, s241_35, s241_38, s241_39, s241_42, s241_45, s241_46, s241_49, s241_52, s241_53, s241_54, s241_57, s241_58, s241_59, s241_62, s241_65, s241_66, s241_69, s241_72, s241_74, s241_75, s241_78, s241_79, s241_80, s241_81, s241_82, s241_85, s241_88, s241_89, s241_91, s241_93, s241_96, s241_97, s241_100, s241_101, s241_102, s241_105, s241_106, s241_107, s241_108, s241_109, s241_112, s241_114, s241_115, s241_118, s241_119, s241_120, s241_121, s241_122, s241_125, s241_126, s241_127, s241_128, s241_131, s241_134, s241_135, s241_136, s241_137, s241_140, s241_141, s241_142, s241_143, s241_146, s241_147, s241_150, zps_0, zps_1, zps_2, zps_3, zps_9, Option.bind_some, Option.bind_none, Int.reduceEq, Int.reduceNe, Int.reduceLT, Int.reduceLE, Int.reduceNeg, Int.reduceAdd, Int.reduceSub, Int.reduceMul, reduceIte, if_true, if_false, true_and, and_true, false_and, and_false, or_true, true_or, or_false, false_or, not_true_eq_false, not_false_eq_true, ite_not, z_b0, z_b1, z_b01, rMK0 hM, rMK1 hM, rMK2 hM, rMK3 hM, rMK4 hM, rMK5 hM, rMK6 hM, rMK7 hM, rMK8 hM, rMK9 hM, rMK10 hM, rMK11 hM, rMK12 hM, rMK13 hM, rMK14 hM, rMK15 hM, rMK16 hM, rMK17 hM, rMK18 hM, rMK19 hM, rMK20 hM, rMK21 hM, rMK22 hM, rMK23 hM, rMK24 hM, rMK25 hM, rMK26 hM, rMK27 hM, rMK28 hM, rMK29 hM, rMK30 hM, rMK31 hM, rMK32 hM, rMK33 hM, rMK34 hM, rMK35 hM, rMK36 hM, rMK37 hM, rMK38 hM, rMK39 hM, rMK40 hM, rMK41 hM, rMK42 hM, rMK43 hM, rMK44 hM, rMK45 hM, rMK46 hM, rMK47 hM, rMK48 hM, rMK49 hM, rMK50 hM, rMK51 hM, kMK0, kMK1, kMK2, kMK3, kMK4, kMK5, kMK6, kMK7, kMK8, kMK9, kMK10, kMK11, kMK12, kMK13, kMK14, kMK15, kMK16, kMK17, kMK18, kMK19, kMK20, kMK21, kMK22, kMK23, kMK24, kMK25, kMK26, kMK27, kMK28, kMK29, kMK30, kMK31, kMK32, kMK33, kMK34, kMK35, kMK36, kMK37, kMK38, kMK39, kMK40, kMK41, kMK42, kMK43, kMK44, kMK45, kMK46, kMK47, kMK48, kMK49, kMK50, kMK51, kMK52, kMK53, kMK54, kMK55, kMK56, kMK57, kMK58, kMK59, kMK60, kMK61, kMK62, kMK63, kMK64, kMK65, kMK66, kMK67, kMK68, kMK69, kMK70, kMK71, kMK72, kMK73, kMK74, kMK75, kMK76, kMK77, kMK78, kMK79, kMK80, kMK81, kMK82, kMK83, kMK84, kMK85, kMK86, kMK87, kMK88, kMK89, kMK90, kMK91, kMK92, kMK93, kMK94, kMK95, kMK96, kMK97, kMK98, kMK99, kMK100, kMK101, kMK102, kMK103, kMK104, y36, MR, r36]
  · have := e2 i i0 i1
    rw [WM_121] at this
    rw [← hy, zpr_at, zpr_ne (by decide), zpr_at]
    exact this
  · rw [← hy, zpr_at, e3 j hj, WM_ne _ _ _ (by decide) (by decide)]
theorem tz_mlaws3 (hM : MK R) {F X : Int → Int} {e : Int × Int} (hX : MX F e) : ev 241 52 [(2, 100), (9, 0)] [] R (WM x F X) = some ((0, zw (-10 - e.2)), R, WM x (zrw (zrw F 27 0) 28 e.1) X) := by
  obtain ⟨h1, h2, h3⟩ := hX
  have g1 : zrw F 27 0 29 = e.1 := by rw [zrw_ne (by decide), h1]
  have g2 : zrw (zrw F 27 0) 28 e.1 29 = e.1 := by rw [zrw_ne (by decide), g1]
  have g3 : zrw (zrw F 27 0) 28 e.1 30 = e.2 := by rw [zrw_ne (by decide), zrw_ne (by decide), h2]
  have c : ¬ e.1 ≤ 0 := by omega
  simp only [s241_0, s241_1, s241_4, s241_6, s241_9, s241_11, s241_12, s241_13, s241_14, s241_17, s241_18, s241_19, s241_22, s241_23, s241_24, s241_27, s241_28, s241_32, s241_35, s241_38, s241_39, s241_42, s241_45, s241_46, s241_49, s241_52, s241_53, s241_54, s241_57, s241_58, s241_59, s241_62, s241_65, s241_66, s241_69, s241_72, s241_74, s241_75, s241_78, s241_79, s241_80, s241_81, s241_82, s241_85, s241_88, s241_89, s241_91, s241_93, s241_96, s241_97, s241_100, s241_101, s241_102, s241_105, s241_106, s241_107, s241_108, s241_109, s241_112, s241_114, s241_115, s241_118, s241_119, s241_120, s241_121, s241_122, s241_125, s241_126, s241_127, s241_128, s241_131, s241_134, s241_135, s241_136, s241_137, s241_140, s241_141, s241_142, s241_143, s241_146, s241_147, s241_150, zps_0, zps_1, zps_2, zps_3, zps_9, Option.bind_some, Option.bind_none, Int.reduceEq, Int.reduceNe, Int.reduceLT, Int.reduceLE, Int.reduceNeg, Int.reduceAdd, Int.reduceSub, Int.reduceMul, reduceIte, if_true, if_false, true_and, and_true, false_and, and_false, or_true, true_or, or_false, false_or, not_true_eq_false, not_false_eq_true, ite_not, z_b0, z_b1, z_b01, rMK0 hM, rMK1 hM, rMK2 hM, rMK3 hM, rMK4 hM, rMK5 hM, rMK6 hM, rMK7 hM, rMK8 hM, rMK9 hM, rMK10 hM, rMK11 hM, rMK12 hM, rMK13 hM, rMK14 hM, rMK15 hM, rMK16 hM, rMK17 hM, rMK18 hM, rMK19 hM, rMK20 hM, rMK21 hM, rMK22 hM, rMK23 hM, rMK24 hM, rMK25 hM, rMK26 hM, rMK27 hM, rMK28 hM, rMK29 hM, rMK30 hM, rMK31 hM, rMK32 hM, rMK33 hM, rMK34 hM, rMK35 hM, rMK36 hM, rMK37 hM, rMK38 hM, rMK39 hM, rMK40 hM, rMK41 hM, rMK42 hM, rMK43 hM, rMK44 hM, rMK45 hM, rMK46 hM, rMK47 hM, rMK48 hM, rMK49 hM, rMK50 hM, rMK51 hM, kMK0, kMK1, kMK2, kMK3, kMK4, kMK5, kMK6, kMK7, kMK8, kMK9, kMK10, kMK11, kMK12, kMK13, kMK14, kMK15, kMK16, kMK17, kMK18, kMK19, kMK20, kMK21, kMK22, kMK23, kMK24, kMK25, kMK26, kMK27, kMK28, kMK29, kMK30, kMK31, kMK32, kMK33, kMK34, kMK35, kMK36, kMK37, kMK38, kMK39, kMK40, kMK41, kMK42, kMK43, kMK44, kMK45, kMK46, kMK47, kMK48, kMK49, kMK50, kMK51, kMK52, kMK53, kMK54, kMK55, kMK56, kMK57, kMK58, kMK59, kMK60, kMK61, kMK62, kMK63, kMK64, kMK65, kMK66, kMK67, kMK68, kMK69, kMK70, kMK71, kMK72, kMK73, kMK74, kMK75, kMK76, kMK77, kMK78, kMK79, kMK80, kMK81, kMK82, kMK83, kMK84, kMK85, kMK86, kMK87, kMK88, kMK89, kMK90, kMK91, kMK92, kMK93, kMK94, kMK95, kMK96, kMK97, kMK98, kMK99, kMK100, kMK101, kMK102, kMK103, kMK104, WM_100, WM_p100, zup_zpr, g1, g2, g3, c, if_true, if_false]
/-- what the class does when the laws are read -/
theorem tz_claws (hRT : RT R S0) {nl : Int} {L : Int → Int} (ha : w 58 0 = a) (ha2 : 0 ≤ a ∧ a < 60) (hnl : 0 ≤ nl ∧ nl ≤ 12) (h68 : w 68 0 = nl) (h69 : w 69 = L) : ∃ (R' y : zM) (la : Int), ev 188 48 [(2, 1), (0, 1)] [] R w = some ((0, nl), R', y) ∧ RT R' S0 ∧ R' 62 a = la ∧ (∀ b, b ≠ a → R' 62 b = R 62 b) ∧ (∀ k, k ≠ 0 → k ≠ 1 → R' 0 k = R 0 k) ∧ (∀ b, b ≠ 0 → b ≠ 62 → b ≤ R 0 0 → R' b = R b) ∧ (153 ≤ la ∧ LK R' la) ∧ (∀ b, 0 ≤ b → b < 60 → b ≠ a → R 62 b ≠ 0 → R 62 b ≠ la ∧ R 62 b + 1 ≠ la ∧ R 62 b ≠ la + 1) ∧ y la 0 = nl ∧ (∀ j i, 0 ≤ j → j < nl → 0 ≤ i → i < 7 → y (la + 1) (7 * j + i) = L (7 * j + i)) ∧ y 9 0 = nl ∧ (∀ j i, 0 ≤ j → j < nl → 0 ≤ i → i < 7 → y 10 (7 * j + i) = L (7 * j + i)) ∧ (∀ b, b ≠ la → b ≠ la + 1 → b ≠ 9 → b ≠ 10 → y b = zkeep w 4 (w 2 3) 0 0 b) := by
  obtain ⟨hT2, hT30, hL68, hGK, hAK, hXK, hWK, hPK, hQK, hNK, hCK, hM⟩ := hRT.1
  obtain ⟨R', m3, la, k1, k2, k3, k4, k5, k6, k7, k8, k9, k10, k11⟩ := tz_keepLaws (R := R) (m := w) (y := w 2 3) hRT ha ha2 h68 hnl
  obtain ⟨z59, z60, z58, z61, zo⟩ := zkeep_rows w 4 (w 2 3) 0 0
  have L1 : ev 188 48 [(2, 1), (0, 1)] [] R w = ev 188 66 [(2, 1), (0, 1)] [] R' m3 := by
    simp only [s188_0, s188_1, s188_4, s188_7, s188_10, s188_12, s188_13, s188_14, s188_17, s188_18, s188_21, s188_24, s188_25, s188_26, s188_29, s188_30, s188_33, s188_34, s188_37, s188_39, s188_40, s188_43, s188_46, s188_47, s188_48, s188_49, s188_52, s188_53, s188_56, s188_59, s188_60, s188_63, s188_67, s188_70, s188_73, s188_74, s188_77, s188_78, s188_81, s188_82, s188_85, s188_88, s188_91, zps_0, zps_1, zps_2, zps_3, zps_9, Option.bind_some, Option.bind_none, Int.reduceEq, Int.reduceNe, Int.reduceLT, Int.reduceLE, Int.reduceNeg, Int.reduceAdd, Int.reduceSub, Int.reduceMul, reduceIte, if_true, if_false, true_and, and_true, false_and, and_false, or_true, true_or, or_false, false_or, not_true_eq_false, not_false_eq_true, ite_not, z_b0, z_b1, z_b01, rGK0 hGK, rGK1 hGK, rGK2 hGK, rGK3 hGK, rGK4 hGK, rGK5 hGK, rGK6 hGK, rGK7 hGK, rGK8 hGK, rGK9 hGK, kGK0, kd2, kd3, kd9, kd11, r2_0 hT2, r2_1 hT2, r2_2 hT2, kAK0, k1]
  have m9 : ∀ b, b ≠ la → b ≠ la + 1 → (b < 58 ∨ 61 < b) → m3 b = w b := fun b b0 b1 b2 => by rw [k11 b b0 b1, zo b b2]
  have q68 : m3 68 = w 68 := m9 68 (by omega) (by omega) (by decide)
  have q69 : m3 69 = L := by rw [m9 69 (by omega) (by omega) (by decide), h69]
  clear hT2 hT30 hL68 hGK hAK hXK hWK hPK hQK hNK hCK hM
  have hK2 := k2.1
  obtain ⟨hT2, hT30, hL68, hGK, hAK, hXK, hWK, hPK, hQK, hNK, hCK, hM⟩ := hK2
  obtain ⟨fL, G, hG⟩ := tz_ltake (R := R') (m := m3) (o := 9) (q := 68) (TK_L hT2) hL68 (by decide) (by rw [q68, h68]; exact hnl) (-1)
  have c : ¬ ((0 : Int) ≤ -1 ∧ (-1 : Int) < nl) := by omega
  rw [q68, h68, if_neg c, Int.sub_zero] at G hG
  obtain ⟨y, hy⟩ : ∃ y, zpr (zpr m3 9 (zrw (m3 9) 0 nl)) (9 + 1) fL = y := ⟨_, rfl⟩
  rw [hy] at G
  have y9 : y 9 0 = nl := by rw [← hy, zpr_ne (by decide), zpr_at, zrw_at]
  have yo : ∀ b, b ≠ 9 → b ≠ 10 → y b = m3 b := fun b b0 b1 => by rw [← hy, zpr_ne (show b ≠ 9 + 1 from b1), zpr_ne b0]
  refine ⟨R', y, la, ?_, k2, k3, k4, k5, k6, k7, k8, by rw [yo la (by omega) (by omega)]; exact k9, fun j i j0 j1 i0 i1 => by rw [yo (la + 1) (by omega) (by omega), k10 j i j0 j1 i0 i1, h69], y9, fun j i j0 j1 i0 i1 => ?_, fun b b0 b1 b2 b3 => by rw [yo b b2 b3, k11 b b0 b1]⟩
  · rw [L1]
    simp only [s188_0, s188_1, s188_4, s188_7, s188_10, s188_12, s188_13, s188_14, s188_17, s188_18, s188_21, s188_24, s188_25, s188_26, s188_29, s188_30, s188_33, s188_34, s188_37, s188_39, s188_40, s188_43, s188_46, s188_47, s188_48, s188_49, s188_52, s188_53, s188_56, s188_59, s188_60, s188_63, s188_66, s188_67, s188_70, s188_73, s188_74, s188_77, s188_78, s188_81, s188_82, s188_85, s188_88, s188_91, zps_0, zps_1, zps_2, zps_3, zps_9, Option.bind_some, Option.bind_none, Int.reduceEq, Int.reduceNe, Int.reduceLT, Int.reduceLE, Int.reduceNeg, Int.reduceAdd, Int.reduceSub, Int.reduceMul, reduceIte, if_true, if_false, true_and, and_true, false_and, and_false, or_true, true_or, or_false, false_or, not_true_eq_false, not_false_eq_true, ite_not, z_b0, z_b1, z_b01, rGK0 hGK, rGK1 hGK, rGK2 hGK, rGK3 hGK, rGK4 hGK, rGK5 hGK, rGK6 hGK, rGK7 hGK, rGK8 hGK, rGK9 hGK, kGK0, kd2, kd3, kd9, kd11, r2_0 hT2, r2_1 hT2, r2_2 hT2, G, y9]
  · have e : y 10 = fL := by rw [← hy]; exact zpr_at _ _ _
    have := hG j i j0 j1 i0 i1
    rw [show (68 : Int) + 1 = 69 by decide, q69] at this
    unfold zlo at this
    rw [if_neg (by omega)] at this
    rw [e]
    exact this
theorem LW_0 (L : Int → Int) : LW 0 L := ⟨by omega, fun k k0 k1 => by omega, fun j k j0 jk k1 => by omega⟩
theorem top_laws : Top 188 241 [(9, 0)] [(9, 0)] := by
  intro R m S0 K h hK0 hK
  have h' := h
  obtain ⟨hRT, hA, hT, hKA, hPA, hTP, hWT, hWL, ⟨ntr, hTR⟩, ⟨npl, hPL⟩, hNT, hSH⟩ := h'
  obtain ⟨hT2, hT30, hL68, hGK, hAK, hXK, hWK, hPK, hQK, hNK, hCK, hM⟩ := hRT.1
  obtain ⟨ea, a0, a60⟩ := Rel_acts h
  obtain ⟨t1, t2, t3, t4, t5⟩ := hTP
  obtain ⟨n, hn⟩ : ∃ n, m 100 27 = n := ⟨_, rfl⟩
  rw [hn] at t1 t2 t3
  have AF := tz_afull (R := R) (m := m) hAK
  by_cases c60 : m 100 19 = 60
  · have f1 : 60 ≤ m 58 0 := by omega
    rw [if_pos f1] at AF
    refine ⟨-3, R, m, m, ?_, ?_, Rel_K h (by omega), fun _ _ _ => rfl⟩
    · simp only [s188_0, s188_1, s188_4, s188_7, s188_10, s188_12, s188_13, s188_14, s188_17, s188_18, s188_21, s188_24, s188_25, s188_26, s188_29, s188_30, s188_33, s188_34, s188_37, s188_39, s188_40, s188_43, s188_46, s188_47, s188_48, s188_49, s188_52, s188_53, s188_56, s188_59, s188_60, s188_63, s188_66, s188_67, s188_70, s188_73, s188_74, s188_77, s188_78, s188_81, s188_82, s188_85, s188_88, s188_91, zps_0, zps_1, zps_2, zps_3, zps_9, Option.bind_some, Option.bind_none, Int.reduceEq, Int.reduceNe, Int.reduceLT, Int.reduceLE, Int.reduceNeg, Int.reduceAdd, Int.reduceSub, Int.reduceMul, reduceIte, if_true, if_false, true_and, and_true, false_and, and_false, or_true, true_or, or_false, false_or, not_true_eq_false, not_false_eq_true, ite_not, z_b0, z_b1, z_b01, rGK0 hGK, rGK1 hGK, rGK2 hGK, rGK3 hGK, rGK4 hGK, rGK5 hGK, rGK6 hGK, rGK7 hGK, rGK8 hGK, rGK9 hGK, kGK0, kAK0, AF, if_true, if_false]
    · simp only [s241_0, s241_1, s241_4, s241_6, s241_9, s241_11, s241_12, s241_13, s241_14, s241_17, s241_18, s241_19, s241_22, s241_23, s241_24, s241_27, s241_28, s241_32, s241_35, s241_38, s241_39, s241_42, s241_45, s241_46, s241_49, s241_52, s241_53, s241_54, s241_57, s241_58, s241_59, s241_62, s241_65, s241_66, s241_69, s241_72, s241_74, s241_75, s241_78, s241_79, s241_80, s241_81, s241_82, s241_85, s241_88, s241_89, s241_91, s241_93, s241_96, s241_97, s241_100, s241_101, s241_102, s241_105, s241_106, s241_107, s241_108, s241_109, s241_112, s241_114, s241_115, s241_118, s241_119, s241_120, s241_121, s241_122, s241_125, s241_126, s241_127, s241_128, s241_131, s241_134, s241_135, s241_136, s241_137, s241_140, s241_141, s241_142, s241_143, s241_146, s241_147, s241_150, zps_0, zps_1, zps_2, zps_3, zps_9, Option.bind_some, Option.bind_none, Int.reduceEq, Int.reduceNe, Int.reduceLT, Int.reduceLE, Int.reduceNeg, Int.reduceAdd, Int.reduceSub, Int.reduceMul, reduceIte, if_true, if_false, true_and, and_true, false_and, and_false, or_true, true_or, or_false, false_or, not_true_eq_false, not_false_eq_true, ite_not, z_b0, z_b1, z_b01, rMK0 hM, rMK1 hM, rMK2 hM, rMK3 hM, rMK4 hM, rMK5 hM, rMK6 hM, rMK7 hM, rMK8 hM, rMK9 hM, rMK10 hM, rMK11 hM, rMK12 hM, rMK13 hM, rMK14 hM, rMK15 hM, rMK16 hM, rMK17 hM, rMK18 hM, rMK19 hM, rMK20 hM, rMK21 hM, rMK22 hM, rMK23 hM, rMK24 hM, rMK25 hM, rMK26 hM, rMK27 hM, rMK28 hM, rMK29 hM, rMK30 hM, rMK31 hM, rMK32 hM, rMK33 hM, rMK34 hM, rMK35 hM, rMK36 hM, rMK37 hM, rMK38 hM, rMK39 hM, rMK40 hM, rMK41 hM, rMK42 hM, rMK43 hM, rMK44 hM, rMK45 hM, rMK46 hM, rMK47 hM, rMK48 hM, rMK49 hM, rMK50 hM, rMK51 hM, kMK0, kMK1, kMK2, kMK3, kMK4, kMK5, kMK6, kMK7, kMK8, kMK9, kMK10, kMK11, kMK12, kMK13, kMK14, kMK15, kMK16, kMK17, kMK18, kMK19, kMK20, kMK21, kMK22, kMK23, kMK24, kMK25, kMK26, kMK27, kMK28, kMK29, kMK30, kMK31, kMK32, kMK33, kMK34, kMK35, kMK36, kMK37, kMK38, kMK39, kMK40, kMK41, kMK42, kMK43, kMK44, kMK45, kMK46, kMK47, kMK48, kMK49, kMK50, kMK51, kMK52, kMK53, kMK54, kMK55, kMK56, kMK57, kMK58, kMK59, kMK60, kMK61, kMK62, kMK63, kMK64, kMK65, kMK66, kMK67, kMK68, kMK69, kMK70, kMK71, kMK72, kMK73, kMK74, kMK75, kMK76, kMK77, kMK78, kMK79, kMK80, kMK81, kMK82, kMK83, kMK84, kMK85, kMK86, kMK87, kMK88, kMK89, kMK90, kMK91, kMK92, kMK93, kMK94, kMK95, kMK96, kMK97, kMK98, kMK99, kMK100, kMK101, kMK102, kMK103, kMK104, c60, if_true, if_false]
  · have f1 : ¬ 60 ≤ m 58 0 := by omega
    rw [if_neg f1] at AF
    have RI := tz_readInto (R := R) (m := m) (f := m 64) (n := n) hXK hL68 rfl t1 t2
    have PA : pAll (m 64) n = pAll (m 120) n := pAll_c (fun p p0 p1 => (t3 p p0 p1).1)
    rw [PA] at RI
    cases hp : pAll (m 120) n 322 0 0 (m 69) with
    | error e =>
      rw [hp] at RI
      dsimp only at RI
      obtain ⟨m1, r1, r2, r3, r4⟩ := RI
      obtain ⟨x, hx⟩ : ∃ x, zpr m1 63 (zrw (m1 63) 0 0) = x := ⟨_, rfl⟩
      have x63 : x 63 = zrw (m1 63) 0 0 := by rw [← hx, zpr_at]
      have xo : ∀ b, b < 63 ∨ b = 64 ∨ 69 < b → x b = m b := fun b hb => by rw [← hx, zpr_ne (by omega), r2 b hb]
      have x632 : x 63 2 = e.2 := by rw [x63, zrw_ne (by decide), r4]
      have x120 := xo 120 (by decide)
      have B := tz_mlaws1 (R := R) (x := x) (f := m 120) (n := n) hXK hL68 hM (ZC_c (xo 122 (by decide)) (xo 123 (by decide)) t5) x120 t2 (fun i i0 i1 => (t3 i i0 i1).2) (by rw [xo 100 (by decide)]; exact hn) (by rw [xo 100 (by decide)]; exact c60) (m 69)
      rw [hp] at B
      dsimp only at B
      obtain ⟨F, X, b1, b2, b3⟩ := B
      have wo : ∀ b, b ≠ 100 → b ≠ 121 → WM x (zrw (zrw F 27 0) 28 e.1) X b = x b := fun b b0 b1 => WM_ne _ _ _ b0 b1
      have w100 := WM_100 x (zrw (zrw F 27 0) 28 e.1) X
      refine ⟨zw (-10 - e.2), R, x, _, ?_, b1.trans (tz_mlaws3 hM b3), Rel_tp2 h ⟨?_, ?_, ?_, ?_, ?_⟩ (fun b hb => by rw [wo b (by omega) (by omega), xo b (by omega)]) (fun k hk => by rw [w100, zrw_ne (by omega), zrw_ne (by omega), b2 k hk, xo 100 (by decide)]), fun _ _ _ => rfl⟩
      · simp only [s188_0, s188_1, s188_4, s188_7, s188_10, s188_12, s188_13, s188_14, s188_17, s188_18, s188_21, s188_24, s188_25, s188_26, s188_29, s188_30, s188_33, s188_34, s188_37, s188_39, s188_40, s188_43, s188_46, s188_47, s188_48, s188_49, s188_52, s188_53, s188_56, s188_59, s188_60, s188_63, s188_66, s188_67, s188_70, s188_73, s188_74, s188_77, s188_78, s188_81, s188_82, s188_85, s188_88, s188_91, zps_0, zps_1, zps_2, zps_3, zps_9, Option.bind_some, Option.bind_none, Int.reduceEq, Int.reduceNe, Int.reduceLT, Int.reduceLE, Int.reduceNeg, Int.reduceAdd, Int.reduceSub, Int.reduceMul, reduceIte, if_true, if_false, true_and, and_true, false_and, and_false, or_true, true_or, or_false, false_or, not_true_eq_false, not_false_eq_true, ite_not, z_b0, z_b1, z_b01, rGK0 hGK, rGK1 hGK, rGK2 hGK, rGK3 hGK, rGK4 hGK, rGK5 hGK, rGK6 hGK, rGK7 hGK, rGK8 hGK, rGK9 hGK, kGK0, rXK0 hXK, rXK1 hXK, rXK2 hXK, rXK3 hXK, kXK0, kXK1, kXK2, kXK3, kXK4, kXK5, kXK6, kXK7, kXK8, kAK0, AF, r1, zup_zpr, hx, x632, if_true, if_false]
      · rw [wo 63 (by decide) (by decide), x63, zrw_at, w100, zrw_ne (by decide), zrw_at]
      · rw [w100, zrw_ne (by decide), zrw_at]; omega
      · rw [w100, zrw_ne (by decide), zrw_at]
        intro i i0 i1
        omega
      · rw [wo 63 (by decide) (by decide), x63, zrw_ne (by decide), w100, zrw_at]; exact r3
      · exact ZC_c (by rw [wo 122 (by decide) (by decide)]; exact xo 122 (by decide)) (by rw [wo 123 (by decide) (by decide)]; exact xo 123 (by decide)) t5
    | ok q =>
      obtain ⟨nl, L⟩ := q
      rw [hp] at RI
      dsimp only at RI
      obtain ⟨m1, r1, r2, r3, r4, r5⟩ := RI
      have LWL : LW nl L := pAll_LW 322 0 0 (m 69) nl L (LW_0 _) hp
      obtain ⟨w, hw⟩ : ∃ w, zpr m1 63 (zrw (m1 63) 0 0) = w := ⟨_, rfl⟩
      have w63 : w 63 = zrw (m1 63) 0 0 := by rw [← hw, zpr_at]
      have w1 : ∀ b, b ≠ 63 → w b = m1 b := fun b hb => by rw [← hw, zpr_ne hb]
      have wo : ∀ b, b < 63 ∨ b = 64 ∨ 69 < b → w b = m b := fun b hb => by rw [w1 b (by omega), r2 b hb]
      obtain ⟨a, ha⟩ : ∃ a, m 100 19 = a := ⟨_, rfl⟩
      rw [ha] at ea a0 a60 c60
      have L0 : ev 188 0 [(2, 1), (9, 0)] [] R m = ev 188 48 [(2, 1), (0, 1)] [] R w := by
        simp only [s188_0, s188_1, s188_4, s188_7, s188_10, s188_12, s188_13, s188_14, s188_17, s188_18, s188_21, s188_24, s188_25, s188_26, s188_29, s188_30, s188_33, s188_34, s188_37, s188_39, s188_40, s188_43, s188_46, s188_47, s188_49, s188_52, s188_53, s188_56, s188_59, s188_60, s188_63, s188_66, s188_67, s188_70, s188_73, s188_74, s188_77, s188_78, s188_81, s188_82, s188_85, s188_88, s188_91, zps_0, zps_1, zps_2, zps_3, zps_9, Option.bind_some, Option.bind_none, Int.reduceEq, Int.reduceNe, Int.reduceLT, Int.reduceLE, Int.reduceNeg, Int.reduceAdd, Int.reduceSub, Int.reduceMul, reduceIte, if_true, if_false, true_and, and_true, false_and, and_false, or_true, true_or, or_false, false_or, not_true_eq_false, not_false_eq_true, ite_not, z_b0, z_b1, z_b01, rGK0 hGK, rGK1 hGK, rGK2 hGK, rGK3 hGK, rGK4 hGK, rGK5 hGK, rGK6 hGK, rGK7 hGK, rGK8 hGK, rGK9 hGK, kGK0, rXK0 hXK, rXK1 hXK, rXK2 hXK, rXK3 hXK, kXK0, kXK1, kXK2, kXK3, kXK4, kXK5, kXK6, kXK7, kXK8, kAK0, AF, r1, zup_zpr, hw, if_true, if_false]
      obtain ⟨R', y, la, k1, k2, k3, k4, k5, k6, k7, k8, k9, k10, k11, k12, k13⟩ := tz_claws (R := R) (w := w) (a := a) (nl := nl) (L := L) hRT (by rw [wo 58 (by decide)]; exact ea) ⟨a0, by omega⟩ LWL.1 (by rw [w1 68 (by decide)]; exact r4) (by rw [w1 69 (by decide)]; exact r5)
      obtain ⟨z59, z60, z58, z61, zo⟩ := zkeep_rows w 4 (w 2 3) 0 0
      rw [wo 58 (by decide), ea] at z58 z59 z60 z61
      rw [wo 59 (by decide)] at z59
      rw [wo 60 (by decide)] at z60
      have e23 : w 2 3 = m 2 3 := by rw [wo 2 (by decide)]
      rw [wo 61 (by decide)] at z61
      have la1 := k7.1
      have yo : ∀ b, b ≠ la → b ≠ la + 1 → b ≠ 9 → b ≠ 10 → (b < 58 ∨ b = 62 ∨ b = 64 ∨ 69 < b) → y b = m b := fun b b0 b1 b2 b3 b4 => by rw [k13 b b0 b1 b2 b3, zo b (by omega), wo b (by omega)]
      have y100 : y 100 = m 100 := yo 100 (by omega) (by omega) (by decide) (by decide) (by decide)
      have y122 := yo 122 (by omega) (by omega) (by decide) (by decide) (by decide)
      have y123 := yo 123 (by omega) (by omega) (by decide) (by decide) (by decide)
      have hK2 := k2.1
      have B := tz_mlaws1 (R := R') (x := y) (f := m 120) (n := n) hK2.2.2.2.2.2.1 hK2.2.2.1 hK2.2.2.2.2.2.2.2.2.2.2.2 (ZC_c y122 y123 t5) (yo 120 (by omega) (by omega) (by decide) (by decide) (by decide)) t2 (fun i i0 i1 => (t3 i i0 i1).2) (by rw [y100]; exact hn) (by rw [y100, ha]; exact c60) (m 69)
      rw [hp] at B
      dsimp only at B
      obtain ⟨F, X, b1, b2, b3, b4, b5⟩ := B
      rw [y100] at b2
      obtain ⟨z, d1, d2, d3, d4, d5, d6, d7, d8⟩ := tz_mlaws2 (R := R') (x := y) (a := a) hK2.2.2.2.2.2.2.2.2.2.2.2 b3 b4 (by rw [b2 19 (by decide)]; exact ha) ⟨a0, by omega⟩
      obtain ⟨v114, v115, v116, v100, vo⟩ := zmrec_rows z 4 nl 0 0 0
      obtain ⟨v, hv⟩ : ∃ v, zmrec z 4 nl 0 0 0 = v := ⟨_, rfl⟩
      rw [hv] at d1 v114 v115 v116 v100 vo
      have z19 : z 100 19 = a := by rw [d3 19 (by decide) (by decide) (by decide), b2 19 (by decide), ha]
      have z6 : z 100 6 = m 100 6 := by rw [d3 6 (by decide) (by decide) (by decide), b2 6 (by decide)]
      rw [z19, d2 114 (by decide) (by decide) (by decide) (by decide), yo 114 (by omega) (by omega) (by decide) (by decide) (by decide)] at v114
      rw [z19, z6, d2 115 (by decide) (by decide) (by decide) (by decide), yo 115 (by omega) (by omega) (by decide) (by decide) (by decide)] at v115
      rw [z19, d2 116 (by decide) (by decide) (by decide) (by decide), yo 116 (by omega) (by omega) (by decide) (by decide) (by decide)] at v116
      rw [z19] at v100
      have vz : ∀ b, b ≠ 100 → (b < 114 ∨ 116 < b) → v b = z b := fun b b0 b1 => vo b b0 (by omega) (by omega) (by omega)
      have vy : ∀ b, b ≠ 100 → b ≠ 105 → (b < 114 ∨ 117 < b) → b ≠ 121 → v b = y b := fun b b0 b1 b2 b3 => by rw [vz b b0 (by omega), d2 b b0 b1 (by omega) b3]
      have vm : ∀ b, b ≠ la → b ≠ la + 1 → b ≠ 9 → b ≠ 10 → b ≠ 100 → b ≠ 105 → (b < 114 ∨ 117 < b) → b ≠ 121 → (b < 58 ∨ b = 62 ∨ b = 64 ∨ 69 < b) → v b = m b := fun b b0 b1 b2 b3 b4 b5 b6 b7 b8 => by rw [vy b b4 b5 b6 b7, yo b b0 b1 b2 b3 b8]
      have vk : ∀ k, k ≠ 8 → k ≠ 19 → (k < 27 ∨ 36 < k) → v 100 k = m 100 k := fun k k0 k1 k2 => by rw [v100, zrw_ne k1, d3 k k0 (by omega) (by omega), b2 k k2]
      have v117 : v 117 = z 117 := vz 117 (by decide) (by decide)
      have v105 : v 105 = z 105 := vz 105 (by decide) (by decide)
      have y63 : y 63 = w 63 := by rw [k13 63 (by omega) (by omega) (by decide) (by decide), zo 63 (by decide)]
      have v63 : v 63 = w 63 := by rw [vy 63 (by decide) (by decide) (by decide) (by decide), y63]
      have v58 : v 58 = zrw (m 58) 0 (a + 1) := by rw [vy 58 (by decide) (by decide) (by decide) (by decide), k13 58 (by omega) (by omega) (by decide) (by decide), z58]
      have v59 : v 59 = zrw (m 59) a 4 := by rw [vy 59 (by decide) (by decide) (by decide) (by decide), k13 59 (by omega) (by omega) (by decide) (by decide), z59]
      have v60 : v 60 = zrw (m 60) a (m 2 3) := by rw [vy 60 (by decide) (by decide) (by decide) (by decide), k13 60 (by omega) (by omega) (by decide) (by decide), z60, e23]
      have v61 : v 61 = zrw (zrw (m 61) (4 * a) 0) (4 * a + 1) 0 := by rw [vy 61 (by decide) (by decide) (by decide) (by decide), k13 61 (by omega) (by omega) (by decide) (by decide), z61]
      have ey := (TR_y hT).1
      have yb := TR_yb hT
      rw [ey] at v60 yb
      have v9 : v 9 0 = nl := by rw [vy 9 (by decide) (by decide) (by decide) (by decide)]; exact k11
      have v10 : ∀ j i, 0 ≤ j → j < nl → 0 ≤ i → i < 7 → v 10 (7 * j + i) = L (7 * j + i) := fun j i j0 j1 i0 i1 => by rw [vy 10 (by decide) (by decide) (by decide) (by decide)]; exact k12 j i j0 j1 i0 i1
      have vla : v la 0 = nl := by rw [vy la (by omega) (by omega) (by omega) (by omega)]; exact k9
      have vla1 : ∀ j i, 0 ≤ j → j < nl → 0 ≤ i → i < 7 → v (la + 1) (7 * j + i) = L (7 * j + i) := fun j i j0 j1 i0 i1 => by rw [vy (la + 1) (by omega) (by omega) (by omega) (by omega)]; exact k10 j i j0 j1 i0 i1
      have nl12 := LWL.1
      have hN : mN v = mN m := by unfold mN; rw [vk 0 (by decide) (by decide) (by decide), vk 1 (by decide) (by decide) (by decide)]
      have hA' : ARl R' v v := by
        refine ARl_add (by omega) hA ha (by omega) (k := 4) (by omega) (by rw [v58, zrw_at]) (by rw [v100, zrw_at]) (vk 6 (by decide) (by decide) (by decide)) hN v59 v60 v114 v115 (fun q hq => by rw [v61, zrw_ne (by omega), zrw_ne (by omega)]) (fun q hq => by rw [v116, zrw_ne (by omega), zrw_ne (by omega), zrw_ne (by omega), zrw_ne (by omega)]) (fun q hq => by rw [v117, d8 q (by omega), yo 117 (by omega) (by omega) (by decide) (by decide) (by decide)]) (fun i i0 i1 hi => ?_) ?_ (by rw [vk 10 (by decide) (by decide) (by decide), if_neg (by decide), Int.add_zero]) (fun b b0 b1 q hq => by rw [vm b (by omega) (by omega) (by omega) (by omega) (by omega) (by omega) (by omega) (by omega) (by omega)]) (fun e => by omega)
        · obtain ⟨c1, -⟩ := hA.2.2.1 i i0 (by rw [ha]; exact i1)
          obtain ⟨q1, q2, q3, q4, q5⟩ := c1.2.2.2.2.2.2.2.2.2 hi
          obtain ⟨p1, p2, p3⟩ := k8 i i0 (by omega) (by omega) (by omega)
          have hd : R 62 i + 1 ≤ R 0 0 := by
            rcases hRT.2.2.2.1 i i0 (by omega) with e | e
            · omega
            · exact e.2.1
          refine ⟨k4 i (by omega), ⟨q2.1, ?_, q2.2.2.1, q2.2.2.2⟩, ?_, fun j q _ _ _ _ => ?_⟩
          · rw [k6 (R 62 i) (by omega) (by omega) (by omega)]; exact q2.2.1
          · rw [vm (R 62 i) p1 (by omega) (by omega) (by omega) (by omega) (by omega) (by omega) (by omega) (by omega)]
          · rw [vm (R 62 i + 1) p2 (by omega) (by omega) (by omega) (by omega) (by omega) (by omega) (by omega) (by omega)]
        · have e114 : v 114 a = 4 := by rw [v114, zrw_at]
          have e116 : v 116 (4 * a) = nl := by rw [v116, zrw_ne (by omega), zrw_ne (by omega), zrw_ne (by omega), zrw_at]
          unfold AOk
          rw [e114, e116, v59, zrw_at, v60, zrw_at, v115, zrw_at, k3, vla]
          refine ⟨by omega, rfl, rfl, fun e => by omega, fun e => by omega, fun e => by omega, fun e => by omega, fun e => by omega, fun e => by omega, fun _ => ⟨k7.1, k7.2, rfl, LW_c2 vla1 LWL, RL_c2 vla1 (fun j q j0 j1 q0 q1 => ?_) b5⟩⟩
          rw [v117]
          exact (d7 (7 * j + q) (by omega) (by omega)).2
      have hT' : TR v v 2 := by
        refine TR_laws hT ?_ ?_ ?_ (fun b b0 b1 b2 b3 => vm b (by omega) (by omega) (by omega) (by omega) (by omega) (by omega) (by omega) (by omega) (by omega)) (fun b b0 b1 b2 => vm b (by omega) (by omega) (by omega) (by omega) (by omega) (by omega) (by omega) (by omega) (by omega)) ⟨vk 0 (by decide) (by decide) (by decide), vk 1 (by decide) (by decide) (by decide), vk 6 (by decide) (by decide) (by decide), vk 7 (by decide) (by decide) (by decide), vk 10 (by decide) (by decide) (by decide)⟩
        · show LW (v 9 0) (v 10)
          rw [v9]
          exact LW_c2 v10 LWL
        · show RL (v 9 0) (v 10) (v 105)
          rw [v9, v105]
          exact RL_c2 v10 (fun j q j0 j1 q0 q1 => (d7 (7 * j + q) (by omega) (by omega)).1) b5
        · show v 100 8 = v 9 0
          rw [v9, v100, zrw_ne (by decide)]
          exact d6
      have vm' : ∀ b, (b < 9 ∨ (10 < b ∧ b < 58) ∨ (69 < b ∧ b < 100) ∨ (100 < b ∧ b < 105) ∨ (105 < b ∧ b < 114) ∨ (117 < b ∧ b < 121) ∨ (121 < b ∧ b < 153)) → v b = m b := fun b hb => vm b (by omega) (by omega) (by omega) (by omega) (by omega) (by omega) (by omega) (by omega) (by omega)
      have hTP' : TPe v := by
        have v27 : v 100 27 = 0 := by rw [v100, zrw_ne (by decide)]; exact d4
        refine ⟨?_, ?_, ?_, ?_, ?_⟩
        · rw [v63, w63, zrw_at, v27]
        · rw [v27]; omega
        · rw [v27]
          intro i i0 i1
          omega
        · rw [v63, w63, zrw_ne (by decide), v100, zrw_ne (by decide), d5]; exact r3
        · exact ZC_c (vm' 122 (by omega)) (vm' 123 (by omega)) t5
      refine ⟨nl, R', y, v, L0.trans k1, b1.trans d1, Rel_act h k2 hA' hT' (PAs_c (by rw [vm' 2 (by omega)]) (vm' 27 (by omega)) (vm' 28 (by omega)) (vm' 118 (by omega)) (vm' 119 (by omega)) (vk 0 (by decide) (by decide) (by decide)) (vk 1 (by decide) (by decide) (by decide)) hPA) hTP' (fun b hb => vm' b (by omega)) (fun k hk => vk k (by omega) (by omega) (by omega)) (Or.inl ⟨vm' 3 (by omega), vm' 4 (by omega), vm' 5 (by omega), vm' 101 (by omega), vm' 102 (by omega)⟩), k5⟩
end LAWSX
