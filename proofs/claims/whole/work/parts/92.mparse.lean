/-! the model's reading of numbers, and of what stands behind a use -/
def WM (w : zM) (F X : Int → Int) : zM := zpr (zpr w 121 X) 100 F
theorem WM_100 (w : zM) (F X : Int → Int) : WM w F X 100 = F := by unfold WM; rw [zpr_at]
theorem WM_121 (w : zM) (F X : Int → Int) : WM w F X 121 = X := by unfold WM; rw [zpr_ne (by decide), zpr_at]
theorem WM_ne (w : zM) (F X : Int → Int) {a : Int} (h1 : a ≠ 100) (h2 : a ≠ 121) : WM w F X a = w a := by unfold WM; rw [zpr_ne h1, zpr_ne h2]
theorem WM_p100 (w : zM) (F X Y : Int → Int) : zpr (WM w F X) 100 Y = WM w Y X := by unfold WM; rw [zpr_zpr]
theorem WM_p121 (w : zM) (F X Y : Int → Int) : zpr (WM w F X) 121 Y = WM w F Y := by
  unfold WM
  funext q
  by_cases q1 : q = 121
  · subst q1; rw [zpr_at, zpr_ne (by decide), zpr_at]
  · rw [zpr_ne q1]
    by_cases q2 : q = 100
    · subst q2; rw [zpr_at, zpr_at]
    · rw [zpr_ne q2, zpr_ne q2, zpr_ne q1, zpr_ne q1]
def zfx (F F' : Int → Int) : Prop := ∀ k, k < 29 ∨ 34 < k → F' k = F k
theorem zfx_tr {F F' F'' : Int → Int} (h1 : zfx F F') (h2 : zfx F' F'') : zfx F F'' := fun k h => (h2 k h).trans (h1 k h)
/-- a token has been lexed / a fault is there -/
def MO (F : Int → Int) (f : Int → Int) (n j : Int) : Prop := NX F f n (zsT f n j.toNat)
def MX (F : Int → Int) (e : Int × Int) : Prop := F 29 = e.1 ∧ F 30 = e.2 ∧ 0 < e.1
/-- what the lexer needs of the memory -/
def MT (w : zM) (f : Int → Int) (n : Int) : Prop := ZC w ∧ w 120 = f ∧ (0 ≤ n ∧ n ≤ 320) ∧ ∀ i, 0 ≤ i → i < n → 0 ≤ f i ∧ f i ≤ 255
section MPARSE
variable {R w : zM} {f F X : Int → Int} {n j : Int}
theorem MO_4 (h : MO F f n j) (h4 : zkd f n j = 4) : MX F (1, zsj f n j) := ⟨(h.1 h4).1, (h.1 h4).2, by show (0 : Int) < 1; omega⟩
theorem MO_n4 (h : MO F f n j) (h4 : zkd f n j ≠ 4) : F 29 = 0 ∧ F 31 = (zlx f n (zsj f n j)).2.2 ∧ F 32 = zsj f n j ∧ F 33 = zkd f n j ∧ F 34 = if zkd f n j = 1 then zat (zva f n j) else zva f n j := h.2 h4
theorem tz_mnx (hM : MK R) (hT : MT w f n) (h27 : F 27 = n) (h : MO F f n j) (hj : 0 ≤ j) (h4 : zkd f n j ≠ 4) : ∃ F' : Int → Int, ev 242 0 [(2, 100), (9, 0), (9, 0)] [] R (WM w F X) = some ((9, 0), R, WM w F' X) ∧ zfx F F' ∧ MO F' f n (j + 1) := by
  obtain ⟨hZ, hf, h320, hb⟩ := hT
  obtain ⟨a1, a2, -⟩ := MO_n4 h h4
  have hs := zsT_ok f h320.1 j.toNat
  have lx := (zlx_ok (f := f) hs).2.1
  have hZ' : ZC (zpr w 121 X) := by unfold ZC at *; rw [zpr_ne (by decide), zpr_ne (by decide)]; exact hZ
  obtain ⟨F', e1, e2, e3⟩ := tz_mnext (R := R) (w := zpr w 121 X) hM hZ' (by rw [zpr_ne (by decide), hf]) h320 hb h27 a1 a2 (by unfold zsj; omega)
  refine ⟨F', e1, e2, ?_⟩
  unfold MO
  rw [show (j + 1).toNat = j.toNat + 1 by omega]
  exact e3
theorem tz_mnx_e (hM : MK R) (h : 0 < F 29) : ev 242 0 [(2, 100), (9, 0), (9, 0)] [] R (WM w F X) = some ((9, 0), R, WM w F X) := tz_mnext0 hM h
theorem tz_mfl (hM : MK R) (c : Int) (h : F 29 = 0) : ev 245 0 [(2, 100), (0, c)] [] R (WM w F X) = some ((9, 0), R, WM w (zrw (zrw F 29 c) 30 (F 32)) X) := by
  rw [tz_fails hM, WM_100, if_pos h, WM_p100]
theorem zfx_f (F : Int → Int) (c v : Int) : zfx F (zrw (zrw F 29 c) 30 v) := fun k h => by rw [zrw_ne (by omega), zrw_ne (by omega)]
theorem MX_f (F : Int → Int) (c v : Int) (h : 0 < c) : MX (zrw (zrw F 29 c) 30 v) (c, v) := ⟨by rw [zrw_ne (by decide), zrw_at], by rw [zrw_at], h⟩
theorem tz_mnum_er (hM : MK R) (h : 0 < F 29) (lo hi : Int) : ev 247 0 [(2, 100), (0, lo), (0, hi), (9, 0)] [] R (WM w F X) = some ((0, F 34), R, WM w F X) := by
  have h0 : ¬ F 29 = 0 := by omega
  have N := tz_mnx_e (R := R) (w := w) (X := X) hM h
  simp only [s247_0, s247_1, s247_4, s247_7, s247_8, s247_11, s247_12, s247_15, s247_16, s247_17, s247_20, s247_23, s247_24, s247_27, s247_30, s247_31, s247_34, s247_35, s247_36, s247_37, s247_38, s247_39, s247_42, s247_45, s247_46, s247_47, s247_50, s247_51, s247_54, s247_55, s247_56, s247_59, s247_60, zps_0, zps_1, zps_2, zps_3, zps_9, Option.bind_some, Option.bind_none, Int.reduceEq, Int.reduceNe, Int.reduceLT, Int.reduceLE, Int.reduceNeg, Int.reduceAdd, Int.reduceSub, Int.reduceMul, reduceIte, if_true, if_false, true_and, and_true, false_and, and_false, or_true, true_or, or_false, false_or, not_true_eq_false, not_false_eq_true, ite_not, z_b0, z_b1, z_b01, rMK0 hM, rMK1 hM, rMK2 hM, rMK3 hM, rMK4 hM, rMK5 hM, rMK6 hM, rMK7 hM, rMK8 hM, rMK9 hM, rMK10 hM, rMK11 hM, rMK12 hM, rMK13 hM, rMK14 hM, rMK15 hM, rMK16 hM, rMK17 hM, rMK18 hM, rMK19 hM, rMK20 hM, rMK21 hM, rMK22 hM, rMK23 hM, rMK24 hM, rMK25 hM, rMK26 hM, rMK27 hM, rMK28 hM, rMK29 hM, rMK30 hM, rMK31 hM, rMK32 hM, rMK33 hM, rMK34 hM, rMK35 hM, rMK36 hM, rMK37 hM, rMK38 hM, rMK39 hM, rMK40 hM, rMK41 hM, rMK42 hM, rMK43 hM, rMK44 hM, rMK45 hM, rMK46 hM, rMK47 hM, rMK48 hM, rMK49 hM, rMK50 hM, rMK51 hM, kMK0, kMK1, kMK2, kMK3, kMK4, kMK5, kMK6, kMK7, kMK8, kMK9, kMK10, kMK11, kMK12, kMK13, kMK14, kMK15, kMK16, kMK17, kMK18, kMK19, kMK20, kMK21, kMK22, kMK23, kMK24, kMK25, kMK26, kMK27, kMK28, kMK29, kMK30, kMK31, kMK32, kMK33, kMK34, kMK35, kMK36, kMK37, kMK38, kMK39, kMK40, kMK41, kMK42, kMK43, kMK44, kMK45, kMK46, kMK47, kMK48, kMK49, kMK50, kMK51, kMK52, kMK53, kMK54, kMK55, kMK56, kMK57, kMK58, kMK59, kMK60, kMK61, kMK62, kMK63, kMK64, kMK65, kMK66, kMK67, kMK68, kMK69, kMK70, kMK71, kMK72, kMK73, kMK74, kMK75, kMK76, kMK77, kMK78, kMK79, kMK80, kMK81, kMK82, kMK83, kMK84, kMK85, kMK86, kMK87, kMK88, kMK89, kMK90, kMK91, kMK92, kMK93, kMK94, kMK95, kMK96, kMK97, kMK98, kMK99, kMK100, kMK101, kMK102, kMK103, kMK104, WM_100, h0, if_false, N]
theorem tz_mnum (hM : MK R) (hT : MT w f n) (h27 : F 27 = n) (h : MO F f n j) (hj : 0 ≤ j) (lo hi : Int) : match pN f n j lo hi with | .ok v => ∃ F' : Int → Int, ev 247 0 [(2, 100), (0, lo), (0, hi), (9, 0)] [] R (WM w F X) = some ((0, v), R, WM w F' X) ∧ zfx F F' ∧ MO F' f n (j + 1) | .error e => ∃ (v : Int) (F' : Int → Int), ev 247 0 [(2, 100), (0, lo), (0, hi), (9, 0)] [] R (WM w F X) = some ((0, v), R, WM w F' X) ∧ zfx F F' ∧ MX F' e := by
  unfold pN
  by_cases c4 : zkd f n j = 4
  · have hX := MO_4 h c4
    have E := tz_mnum_er (R := R) (w := w) (X := X) (F := F) hM (by rw [hX.1]; show (0 : Int) < 1; omega) lo hi
    rw [if_neg (by omega)]
    dsimp only
    refine ⟨_, F, E, fun _ _ => rfl, ?_⟩
    unfold pF
    rw [if_pos c4]
    exact hX
  · obtain ⟨a1, a2, a3, a4, a5⟩ := MO_n4 h c4
    by_cases c2 : zkd f n j = 2
    · rw [if_pos c2]
      rw [c2] at a4 a5
      rw [if_neg (by decide)] at a5
      by_cases d : lo ≤ zva f n j ∧ zva f n j ≤ hi
      · rw [if_pos d]
        obtain ⟨F', e1, e2, e3⟩ := tz_mnx (X := X) hM hT h27 h hj c4
        refine ⟨F', ?_, e2, e3⟩
        simp only [s247_0, s247_1, s247_4, s247_7, s247_8, s247_11, s247_12, s247_15, s247_16, s247_17, s247_20, s247_23, s247_24, s247_27, s247_30, s247_31, s247_34, s247_35, s247_36, s247_37, s247_38, s247_39, s247_42, s247_45, s247_46, s247_47, s247_50, s247_51, s247_54, s247_55, s247_56, s247_59, s247_60, zps_0, zps_1, zps_2, zps_3, zps_9, Option.bind_some, Option.bind_none, Int.reduceEq, Int.reduceNe, Int.reduceLT, Int.reduceLE, Int.reduceNeg, Int.reduceAdd, Int.reduceSub, Int.reduceMul, reduceIte, if_true, if_false, true_and, and_true, false_and, and_false, or_true, true_or, or_false, false_or, not_true_eq_false, not_false_eq_true, ite_not, z_b0, z_b1, z_b01, rMK0 hM, rMK1 hM, rMK2 hM, rMK3 hM, rMK4 hM, rMK5 hM, rMK6 hM, rMK7 hM, rMK8 hM, rMK9 hM, rMK10 hM, rMK11 hM, rMK12 hM, rMK13 hM, rMK14 hM, rMK15 hM, rMK16 hM, rMK17 hM, rMK18 hM, rMK19 hM, rMK20 hM, rMK21 hM, rMK22 hM, rMK23 hM, rMK24 hM, rMK25 hM, rMK26 hM, rMK27 hM, rMK28 hM, rMK29 hM, rMK30 hM, rMK31 hM, rMK32 hM, rMK33 hM, rMK34 hM, rMK35 hM, rMK36 hM, rMK37 hM, rMK38 hM, rMK39 hM, rMK40 hM, rMK41 hM, rMK42 hM, rMK43 hM, rMK44 hM, rMK45 hM, rMK46 hM, rMK47 hM, rMK48 hM, rMK49 hM, rMK50 hM, rMK51 hM, kMK0, kMK1, kMK2, kMK3, kMK4, kMK5, kMK6, kMK7, kMK8, kMK9, kMK10, kMK11, kMK12, kMK13, kMK14, kMK15, kMK16, kMK17, kMK18, kMK19, kMK20, kMK21, kMK22, kMK23, kMK24, kMK25, kMK26, kMK27, kMK28, kMK29, kMK30, kMK31, kMK32, kMK33, kMK34, kMK35, kMK36, kMK37, kMK38, kMK39, kMK40, kMK41, kMK42, kMK43, kMK44, kMK45, kMK46, kMK47, kMK48, kMK49, kMK50, kMK51, kMK52, kMK53, kMK54, kMK55, kMK56, kMK57, kMK58, kMK59, kMK60, kMK61, kMK62, kMK63, kMK64, kMK65, kMK66, kMK67, kMK68, kMK69, kMK70, kMK71, kMK72, kMK73, kMK74, kMK75, kMK76, kMK77, kMK78, kMK79, kMK80, kMK81, kMK82, kMK83, kMK84, kMK85, kMK86, kMK87, kMK88, kMK89, kMK90, kMK91, kMK92, kMK93, kMK94, kMK95, kMK96, kMK97, kMK98, kMK99, kMK100, kMK101, kMK102, kMK103, kMK104, WM_100, a1, a4, a5, tz_in, d, and_self, if_true, e1]
      · rw [if_neg d]
        dsimp only
        have FL := tz_mfl (R := R) (w := w) (X := X) hM 3 a1
        have NE := tz_mnx_e (R := R) (w := w) (X := X) (F := zrw (zrw F 29 3) 30 (F 32)) hM (by rw [zrw_ne (by decide), zrw_at]; decide)
        refine ⟨zrw (zrw F 29 3) 30 (F 32) 34, _, ?_, zfx_f F 3 (F 32), by rw [a3]; exact MX_f F 3 _ (by decide)⟩
        · simp only [s247_0, s247_1, s247_4, s247_7, s247_8, s247_11, s247_12, s247_15, s247_16, s247_17, s247_20, s247_23, s247_24, s247_27, s247_30, s247_31, s247_34, s247_35, s247_36, s247_37, s247_38, s247_39, s247_42, s247_45, s247_46, s247_47, s247_50, s247_51, s247_54, s247_55, s247_56, s247_59, s247_60, zps_0, zps_1, zps_2, zps_3, zps_9, Option.bind_some, Option.bind_none, Int.reduceEq, Int.reduceNe, Int.reduceLT, Int.reduceLE, Int.reduceNeg, Int.reduceAdd, Int.reduceSub, Int.reduceMul, reduceIte, if_true, if_false, true_and, and_true, false_and, and_false, or_true, true_or, or_false, false_or, not_true_eq_false, not_false_eq_true, ite_not, z_b0, z_b1, z_b01, rMK0 hM, rMK1 hM, rMK2 hM, rMK3 hM, rMK4 hM, rMK5 hM, rMK6 hM, rMK7 hM, rMK8 hM, rMK9 hM, rMK10 hM, rMK11 hM, rMK12 hM, rMK13 hM, rMK14 hM, rMK15 hM, rMK16 hM, rMK17 hM, rMK18 hM, rMK19 hM, rMK20 hM, rMK21 hM, rMK22 hM, rMK23 hM, rMK24 hM, rMK25 hM, rMK26 hM, rMK27 hM, rMK28 hM, rMK29 hM, rMK30 hM, rMK31 hM, rMK32 hM, rMK33 hM, rMK34 hM, rMK35 hM, rMK36 hM, rMK37 hM, rMK38 hM, rMK39 hM, rMK40 hM, rMK41 hM, rMK42 hM, rMK43 hM, rMK44 hM, rMK45 hM, rMK46 hM, rMK47 hM, rMK48 hM, rMK49 hM, rMK50 hM, rMK51 hM, kMK0, kMK1, kMK2, kMK3, kMK4, kMK5, kMK6, kMK7, kMK8, kMK9, kMK10, kMK11, kMK12, kMK13, kMK14, kMK15, kMK16, kMK17, kMK18, kMK19, kMK20, kMK21, kMK22, kMK23, kMK24, kMK25, kMK26, kMK27, kMK28, kMK29, kMK30, kMK31, kMK32, kMK33, kMK34, kMK35, kMK36, kMK37, kMK38, kMK39, kMK40, kMK41, kMK42, kMK43, kMK44, kMK45, kMK46, kMK47, kMK48, kMK49, kMK50, kMK51, kMK52, kMK53, kMK54, kMK55, kMK56, kMK57, kMK58, kMK59, kMK60, kMK61, kMK62, kMK63, kMK64, kMK65, kMK66, kMK67, kMK68, kMK69, kMK70, kMK71, kMK72, kMK73, kMK74, kMK75, kMK76, kMK77, kMK78, kMK79, kMK80, kMK81, kMK82, kMK83, kMK84, kMK85, kMK86, kMK87, kMK88, kMK89, kMK90, kMK91, kMK92, kMK93, kMK94, kMK95, kMK96, kMK97, kMK98, kMK99, kMK100, kMK101, kMK102, kMK103, kMK104, WM_100, a1, a4, a5, tz_in, d, if_true, if_false, FL, NE]
    · rw [if_neg c2]
      dsimp only
      have FL := tz_mfl (R := R) (w := w) (X := X) hM 2 a1
      have NE := tz_mnx_e (R := R) (w := w) (X := X) (F := zrw (zrw F 29 2) 30 (F 32)) hM (by rw [zrw_ne (by decide), zrw_at]; decide)
      have c33 : ¬ F 33 = 2 := by rw [a4]; exact c2
      refine ⟨zrw (zrw F 29 2) 30 (F 32) 34, _, ?_, zfx_f F 2 (F 32), ?_⟩
      · simp only [s247_0, s247_1, s247_4, s247_7, s247_8, s247_11, s247_12, s247_15, s247_16, s247_17, s247_20, s247_23, s247_24, s247_27, s247_30, s247_31, s247_34, s247_35, s247_36, s247_37, s247_38, s247_39, s247_42, s247_45, s247_46, s247_47, s247_50, s247_51, s247_54, s247_55, s247_56, s247_59, s247_60, zps_0, zps_1, zps_2, zps_3, zps_9, Option.bind_some, Option.bind_none, Int.reduceEq, Int.reduceNe, Int.reduceLT, Int.reduceLE, Int.reduceNeg, Int.reduceAdd, Int.reduceSub, Int.reduceMul, reduceIte, if_true, if_false, true_and, and_true, false_and, and_false, or_true, true_or, or_false, false_or, not_true_eq_false, not_false_eq_true, ite_not, z_b0, z_b1, z_b01, rMK0 hM, rMK1 hM, rMK2 hM, rMK3 hM, rMK4 hM, rMK5 hM, rMK6 hM, rMK7 hM, rMK8 hM, rMK9 hM, rMK10 hM, rMK11 hM, rMK12 hM, rMK13 hM, rMK14 hM, rMK15 hM, rMK16 hM, rMK17 hM, rMK18 hM, rMK19 hM, rMK20 hM, rMK21 hM, rMK22 hM, rMK23 hM, rMK24 hM, rMK25 hM, rMK26 hM, rMK27 hM, rMK28 hM, rMK29 hM, rMK30 hM, rMK31 hM, rMK32 hM, rMK33 hM, rMK34 hM, rMK35 hM, rMK36 hM, rMK37 hM, rMK38 hM, rMK39 hM, rMK40 hM, rMK41 hM, rMK42 hM, rMK43 hM, rMK44 hM, rMK45 hM, rMK46 hM, rMK47 hM, rMK48 hM, rMK49 hM, rMK50 hM, rMK51 hM, kMK0, kMK1, kMK2, kMK3, kMK4, kMK5, kMK6, kMK7, kMK8, kMK9, kMK10, kMK11, kMK12, kMK13, kMK14, kMK15, kMK16, kMK17, kMK18, kMK19, kMK20, kMK21, kMK22, kMK23, kMK24, kMK25, kMK26, kMK27, kMK28, kMK29, kMK30, kMK31, kMK32, kMK33, kMK34, kMK35, kMK36, kMK37, kMK38, kMK39, kMK40, kMK41, kMK42, kMK43, kMK44, kMK45, kMK46, kMK47, kMK48, kMK49, kMK50, kMK51, kMK52, kMK53, kMK54, kMK55, kMK56, kMK57, kMK58, kMK59, kMK60, kMK61, kMK62, kMK63, kMK64, kMK65, kMK66, kMK67, kMK68, kMK69, kMK70, kMK71, kMK72, kMK73, kMK74, kMK75, kMK76, kMK77, kMK78, kMK79, kMK80, kMK81, kMK82, kMK83, kMK84, kMK85, kMK86, kMK87, kMK88, kMK89, kMK90, kMK91, kMK92, kMK93, kMK94, kMK95, kMK96, kMK97, kMK98, kMK99, kMK100, kMK101, kMK102, kMK103, kMK104, WM_100, a1, c33, if_true, if_false, FL, NE]
      · unfold pF
        rw [if_neg c4, a3]
        exact MX_f F 2 _ (by decide)
/-- the numbers of an act as the model keeps them -/
def mrow (act fr u : Int) (r : Int → Int) (i : Int) : Int := if i = 0 then act else if i = 1 then fr else if i = 2 then u else r i + if i = 3 ∧ act = 1 then 1 else 0
theorem tz_mbh0 (hM : MK R) {act fr u nl : Int} (h36 : F 36 = nl) (hnl : 0 ≤ nl ∧ nl < 12) : ∃ X0 : Int → Int, ev 249 0 [(2, 100), (0, act), (0, fr), (0, u), (9, 0), (9, 0), (9, 0)] [] R (WM w F X) = ev 249 91 [(2, 100), (0, act), (0, fr), (0, u), (0, 7 * nl), (9, 0), (9, 0)] [] R (WM w F X0) ∧ ∀ i, X0 i = if 7 * nl ≤ i ∧ i < 7 * nl + 7 then (if i - 7 * nl = 0 then act else if i - 7 * nl = 1 then fr else if i - 7 * nl = 2 then u else 0) else X i := by
  obtain ⟨z0, z1, z2, z3, z4, z5, z6, -⟩ := z7 hnl
  obtain ⟨c0, c1, c2, c3, c4, c5, c6⟩ := z7b hnl
  have c : ¬ 12 ≤ nl := by omega
  have c' : nl < 12 := hnl.2
  refine ⟨zrw (zrw (zrw (zrw (zrw (zrw (zrw X (7 * nl) act) (7 * nl + 1) fr) (7 * nl + 2) u) (7 * nl + 3) 0) (7 * nl + 4) 0) (7 * nl + 5) 0) (7 * nl + 6) 0, ?_, fun i => ?_⟩
  · simp only [s249_0, s249_2, s249_3, s249_6, s249_8, s249_11, s249_12, s249_15, s249_18, s249_19, s249_20, s249_22, s249_23, s249_26, s249_28, s249_29, s249_30, s249_31, s249_34, s249_36, s249_37, s249_38, s249_39, s249_40, s249_41, s249_44, s249_46, s249_47, s249_48, s249_49, s249_50, s249_51, s249_54, s249_56, s249_57, s249_58, s249_59, s249_60, s249_61, s249_64, s249_66, s249_67, s249_68, s249_69, s249_70, s249_71, s249_74, s249_76, s249_77, s249_78, s249_79, s249_80, s249_81, s249_84, s249_86, s249_88, s249_89, s249_90, s249_92, s249_95, s249_96, s249_97, s249_99, s249_102, s249_104, s249_105, s249_106, s249_108, s249_111, s249_113, s249_114, s249_117, s249_119, s249_120, s249_121, s249_123, s249_124, s249_125, s249_128, s249_130, s249_131, s249_132, s249_134, s249_135, s249_136, s249_139, s249_141, s249_142, s249_143, s249_144, s249_146, s249_148, s249_151, s249_152, s249_153, s249_156, s249_158, s249_160, s249_161, s249_162, s249_164, s249_166, s249_169, s249_170, s249_173, s249_174, s249_175, s249_178, s249_179, s249_182, s249_185, s249_186, s249_189, s249_190, s249_193, s249_194, s249_197, s249_198, s249_201, s249_204, s249_207, s249_210, s249_211, s249_212, s249_215, s249_216, s249_219, s249_221, s249_222, s249_223, s249_224, s249_227, s249_229, s249_230, s249_231, s249_232, s249_233, s249_234, s249_237, s249_238, s249_241, s249_243, s249_244, s249_245, s249_246, s249_247, s249_249, s249_252, s249_253, s249_254, s249_257, s249_259, s249_260, s249_261, s249_262, s249_264, s249_266, s249_269, s249_270, s249_273, s249_274, s249_277, s249_279, s249_280, s249_281, s249_282, s249_283, s249_284, s249_285, s249_288, s249_290, s249_293, s249_294, s249_295, s249_298, s249_300, s249_303, s249_306, s249_309, s249_310, zps_0, zps_1, zps_2, zps_3, zps_9, Option.bind_some, Option.bind_none, Int.reduceEq, Int.reduceNe, Int.reduceLT, Int.reduceLE, Int.reduceNeg, Int.reduceAdd, Int.reduceSub, Int.reduceMul, reduceIte, if_true, if_false, true_and, and_true, false_and, and_false, or_true, true_or, or_false, false_or, not_true_eq_false, not_false_eq_true, ite_not, z_b0, z_b1, z_b01, rMK0 hM, rMK1 hM, rMK2 hM, rMK3 hM, rMK4 hM, rMK5 hM, rMK6 hM, rMK7 hM, rMK8 hM, rMK9 hM, rMK10 hM, rMK11 hM, rMK12 hM, rMK13 hM, rMK14 hM, rMK15 hM, rMK16 hM, rMK17 hM, rMK18 hM, rMK19 hM, rMK20 hM, rMK21 hM, rMK22 hM, rMK23 hM, rMK24 hM, rMK25 hM, rMK26 hM, rMK27 hM, rMK28 hM, rMK29 hM, rMK30 hM, rMK31 hM, rMK32 hM, rMK33 hM, rMK34 hM, rMK35 hM, rMK36 hM, rMK37 hM, rMK38 hM, rMK39 hM, rMK40 hM, rMK41 hM, rMK42 hM, rMK43 hM, rMK44 hM, rMK45 hM, rMK46 hM, rMK47 hM, rMK48 hM, rMK49 hM, rMK50 hM, rMK51 hM, kMK0, kMK1, kMK2, kMK3, kMK4, kMK5, kMK6, kMK7, kMK8, kMK9, kMK10, kMK11, kMK12, kMK13, kMK14, kMK15, kMK16, kMK17, kMK18, kMK19, kMK20, kMK21, kMK22, kMK23, kMK24, kMK25, kMK26, kMK27, kMK28, kMK29, kMK30, kMK31, kMK32, kMK33, kMK34, kMK35, kMK36, kMK37, kMK38, kMK39, kMK40, kMK41, kMK42, kMK43, kMK44, kMK45, kMK46, kMK47, kMK48, kMK49, kMK50, kMK51, kMK52, kMK53, kMK54, kMK55, kMK56, kMK57, kMK58, kMK59, kMK60, kMK61, kMK62, kMK63, kMK64, kMK65, kMK66, kMK67, kMK68, kMK69, kMK70, kMK71, kMK72, kMK73, kMK74, kMK75, kMK76, kMK77, kMK78, kMK79, kMK80, kMK81, kMK82, kMK83, kMK84, kMK85, kMK86, kMK87, kMK88, kMK89, kMK90, kMK91, kMK92, kMK93, kMK94, kMK95, kMK96, kMK97, kMK98, kMK99, kMK100, kMK101, kMK102, kMK103, kMK104, WM_100, h36, c, c', z0, z1, z2, z3, z4, z5, z6, c0, c1, c2, c3, c4, c5, c6, and_self, if_true, if_false, zup_zpr, WM_121, WM_p121]
  · simp only [zrw_if]
    (repeat' split) <;> first | rfl | omega
end MPARSE
