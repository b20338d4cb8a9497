/-! the model's trips: crowds, what a way takes -/
def TMw (y : zM) (T : zTS) (t : Int) : Prop := y 141 t = T.1 t ∧ ∀ i, 0 ≤ i → i < T.1 t → y 142 (64 * t + i) = T.2 (64 * t + i)
section MTRIP2
variable {R w x y z : zM} {T T' : zTS} {t a b u but : Int} {n : Nat} {c : Int → Int} {D D' : Int → Int}
theorem zcnt_1 (f : Int → Int) (e : Int) : zcnt (fun i => decide (1 ≤ i ∧ f i = e)) 1 = 0 := by
  simp only [zcnt]
  rw [if_neg (by simp)]
  omega
theorem tCw1_le1 (h0 : 0 ≤ T.1 u) (h : T.1 u ≤ 1) (e : Int) : tCw1 T u e = 0 := by
  unfold tCw1
  by_cases z : T.1 u = 0
  · rw [z]; rfl
  · rw [show T.1 u = 1 by omega]; exact zcnt_1 _ e
theorem tz_mlc1 (hM : MK R) (hu : 0 ≤ u ∧ u < 8) (hT : TMw y T u) (hO : TOt w T u) {g : Int → Int} (hg : ∀ e, 0 ≤ e → e < 128 → 0 ≤ g e ∧ g e ≤ 1000) : ∃ (g' : Int → Int) (l3 : Int), ev 302 16 [(2, 100), (0, but), (0, u), (0, 1)] [] R (zpr y 135 g) = ev 302 74 [(2, 100), (0, but), (0, u), (0, l3)] [] R (zpr y 135 g') ∧ ∀ e, 0 ≤ e → e < 128 → g' e = g e + if u = but then 0 else tCw1 T u e := by
  have r141 : ∀ g : Int → Int, zpr y 135 g 141 u = T.1 u := fun g => by rw [zpr_ne (by decide)]; exact hT.1
  have r142 : ∀ g : Int → Int, zpr y 135 g 142 = y 142 := fun g => zpr_ne (by decide)
  by_cases b1 : T.1 u ≤ 1
  · have b2 : ¬ (1 : Int) < T.1 u := by omega
    refine ⟨g, 1, ?_, fun e e0 e1 => ?_⟩
    · rw [s302_16]
      simp only [s302_0, s302_1, s302_4, s302_5, s302_7, s302_8, s302_11, s302_14, s302_15, s302_17, s302_18, s302_21, s302_22, s302_23, s302_26, s302_27, s302_28, s302_31, s302_32, s302_35, s302_36, s302_37, s302_40, s302_42, s302_43, s302_44, s302_45, s302_46, s302_47, s302_48, s302_49, s302_50, s302_53, s302_55, s302_56, s302_57, s302_58, s302_59, s302_60, s302_63, s302_64, s302_65, s302_66, s302_67, s302_68, s302_71, s302_77, s302_80, zps_0, zps_1, zps_2, zps_3, zps_9, Option.bind_some, Option.bind_none, Int.reduceEq, Int.reduceNe, Int.reduceLT, Int.reduceLE, Int.reduceNeg, Int.reduceAdd, Int.reduceSub, Int.reduceMul, reduceIte, if_true, if_false, true_and, and_true, false_and, and_false, or_true, true_or, or_false, false_or, not_true_eq_false, not_false_eq_true, ite_not, z_b0, z_b1, z_b01, rMK0 hM, rMK1 hM, rMK2 hM, rMK3 hM, rMK4 hM, rMK5 hM, rMK6 hM, rMK7 hM, rMK8 hM, rMK9 hM, rMK10 hM, rMK11 hM, rMK12 hM, rMK13 hM, rMK14 hM, rMK15 hM, rMK16 hM, rMK17 hM, rMK18 hM, rMK19 hM, rMK20 hM, rMK21 hM, rMK22 hM, rMK23 hM, rMK24 hM, rMK25 hM, rMK26 hM, rMK27 hM, rMK28 hM, rMK29 hM, rMK30 hM, rMK31 hM, rMK32 hM, rMK33 hM, rMK34 hM, rMK35 hM, rMK36 hM, rMK37 hM, rMK38 hM, rMK39 hM, rMK40 hM, rMK41 hM, rMK42 hM, rMK43 hM, rMK44 hM, rMK45 hM, rMK46 hM, rMK47 hM, rMK48 hM, rMK49 hM, rMK50 hM, rMK51 hM, kMK0, kMK1, kMK2, kMK3, kMK4, kMK5, kMK6, kMK7, kMK8, kMK9, kMK10, kMK11, kMK12, kMK13, kMK14, kMK15, kMK16, kMK17, kMK18, kMK19, kMK20, kMK21, kMK22, kMK23, kMK24, kMK25, kMK26, kMK27, kMK28, kMK29, kMK30, kMK31, kMK32, kMK33, kMK34, kMK35, kMK36, kMK37, kMK38, kMK39, kMK40, kMK41, kMK42, kMK43, kMK44, kMK45, kMK46, kMK47, kMK48, kMK49, kMK50, kMK51, kMK52, kMK53, kMK54, kMK55, kMK56, kMK57, kMK58, kMK59, kMK60, kMK61, kMK62, kMK63, kMK64, kMK65, kMK66, kMK67, kMK68, kMK69, kMK70, kMK71, kMK72, kMK73, kMK74, kMK75, kMK76, kMK77, kMK78, kMK79, kMK80, kMK81, kMK82, kMK83, kMK84, kMK85, kMK86, kMK87, kMK88, kMK89, kMK90, kMK91, kMK92, kMK93, kMK94, kMK95, kMK96, kMK97, kMK98, kMK99, kMK100, kMK101, kMK102, kMK103, kMK104, r141, hu, b1, b2, and_self, if_true, if_false]
    · rw [tCw1_le1 hO.1.1 b1 e]
      split <;> omega
  · by_cases e : u = but
    · subst e
      refine ⟨g, 1, ?_, fun e e0 e1 => by rw [if_pos rfl]; omega⟩
      rw [s302_16]
      simp only [s302_0, s302_1, s302_4, s302_5, s302_7, s302_8, s302_11, s302_14, s302_15, s302_17, s302_18, s302_21, s302_22, s302_23, s302_26, s302_27, s302_28, s302_31, s302_32, s302_35, s302_36, s302_37, s302_40, s302_42, s302_43, s302_44, s302_45, s302_46, s302_47, s302_48, s302_49, s302_50, s302_53, s302_55, s302_56, s302_57, s302_58, s302_59, s302_60, s302_63, s302_64, s302_65, s302_66, s302_67, s302_68, s302_71, s302_77, s302_80, zps_0, zps_1, zps_2, zps_3, zps_9, Option.bind_some, Option.bind_none, Int.reduceEq, Int.reduceNe, Int.reduceLT, Int.reduceLE, Int.reduceNeg, Int.reduceAdd, Int.reduceSub, Int.reduceMul, reduceIte, if_true, if_false, true_and, and_true, false_and, and_false, or_true, true_or, or_false, false_or, not_true_eq_false, not_false_eq_true, ite_not, z_b0, z_b1, z_b01, rMK0 hM, rMK1 hM, rMK2 hM, rMK3 hM, rMK4 hM, rMK5 hM, rMK6 hM, rMK7 hM, rMK8 hM, rMK9 hM, rMK10 hM, rMK11 hM, rMK12 hM, rMK13 hM, rMK14 hM, rMK15 hM, rMK16 hM, rMK17 hM, rMK18 hM, rMK19 hM, rMK20 hM, rMK21 hM, rMK22 hM, rMK23 hM, rMK24 hM, rMK25 hM, rMK26 hM, rMK27 hM, rMK28 hM, rMK29 hM, rMK30 hM, rMK31 hM, rMK32 hM, rMK33 hM, rMK34 hM, rMK35 hM, rMK36 hM, rMK37 hM, rMK38 hM, rMK39 hM, rMK40 hM, rMK41 hM, rMK42 hM, rMK43 hM, rMK44 hM, rMK45 hM, rMK46 hM, rMK47 hM, rMK48 hM, rMK49 hM, rMK50 hM, rMK51 hM, kMK0, kMK1, kMK2, kMK3, kMK4, kMK5, kMK6, kMK7, kMK8, kMK9, kMK10, kMK11, kMK12, kMK13, kMK14, kMK15, kMK16, kMK17, kMK18, kMK19, kMK20, kMK21, kMK22, kMK23, kMK24, kMK25, kMK26, kMK27, kMK28, kMK29, kMK30, kMK31, kMK32, kMK33, kMK34, kMK35, kMK36, kMK37, kMK38, kMK39, kMK40, kMK41, kMK42, kMK43, kMK44, kMK45, kMK46, kMK47, kMK48, kMK49, kMK50, kMK51, kMK52, kMK53, kMK54, kMK55, kMK56, kMK57, kMK58, kMK59, kMK60, kMK61, kMK62, kMK63, kMK64, kMK65, kMK66, kMK67, kMK68, kMK69, kMK70, kMK71, kMK72, kMK73, kMK74, kMK75, kMK76, kMK77, kMK78, kMK79, kMK80, kMK81, kMK82, kMK83, kMK84, kMK85, kMK86, kMK87, kMK88, kMK89, kMK90, kMK91, kMK92, kMK93, kMK94, kMK95, kMK96, kMK97, kMK98, kMK99, kMK100, kMK101, kMK102, kMK103, kMK104, r141, hu, b1, and_self, if_true, if_false]
    · simp only [if_neg e]
      refine zloop (fun r => ∃ (g' : Int → Int) (l3 : Int), r = ev 302 74 [(2, 100), (0, but), (0, u), (0, l3)] [] R (zpr y 135 g') ∧ ∀ e, 0 ≤ e → e < 128 → g' e = g e + tCw1 T u e) (fun i (f : Int → Int) => ev 302 16 [(2, 100), (0, but), (0, u), (0, i)] [] R (zpr y 135 f)) (T.1 u) (fun i f => 1 ≤ i ∧ ∀ e, 0 ≤ e → e < 128 → f e = g e + zcnt (fun i => decide (1 ≤ i ∧ zed T u i = e)) i.toNat) ?_ ?_ 1 g (by omega) ⟨by omega, fun e e0 e1 => by rw [show (1 : Int).toNat = 1 from rfl, zcnt_1]; omega⟩
      · rintro i f hi ⟨i0, hI⟩ ih
        have le := hO.1.2
        have c1 : ¬ T.1 u ≤ i := by omega
        have z1 : zw (64 * u) = 64 * u := zw_i (by omega) (by omega)
        have z2 : zw (64 * u + i) = 64 * u + i := zw_i (by omega) (by omega)
        have z3 : zw (64 * u + i - 1) = 64 * u + (i - 1) := by rw [zw_i (by omega) (by omega)]; omega
        have z4 : zw (i + 1) = i + 1 := zw_i (by omega) (by omega)
        have c2 : 0 ≤ 64 * u + i ∧ 64 * u + i < 512 := by omega
        have c3 : 0 ≤ 64 * u + (i - 1) ∧ 64 * u + (i - 1) < 512 := by omega
        have v1 := hT.2 (i - 1) (by omega) (by omega)
        have v2 := hT.2 i (by omega) hi
        have p1 := hO.2.1 (i - 1) (by omega) (by omega)
        have p2 := hO.2.1 i (by omega) hi
        obtain ⟨s1, s2, fz⟩ := hO.2.2 i i0 hi
        have eb := wEd_b p1 p2 (zfar_n fz)
        have ED := tz_medge (R := R) (w := zpr y 135 f) _ _ p1 p2
        have bd := hg _ eb.1 eb.2
        have be := hI _ eb.1 eb.2
        have cb := zcnt_bd (fun j => decide (1 ≤ j ∧ zed T u j = wEd (T.2 (64 * u + (i - 1))) (T.2 (64 * u + i)))) i.toNat
        have z5 : zw (f (wEd (T.2 (64 * u + (i - 1))) (T.2 (64 * u + i))) + 1) = f (wEd (T.2 (64 * u + (i - 1))) (T.2 (64 * u + i))) + 1 := zw_i (by omega) (by omega)
        rw [s302_16]
        simp only [s302_0, s302_1, s302_4, s302_5, s302_7, s302_8, s302_11, s302_14, s302_15, s302_17, s302_18, s302_21, s302_22, s302_23, s302_26, s302_27, s302_28, s302_31, s302_32, s302_35, s302_36, s302_37, s302_40, s302_42, s302_43, s302_44, s302_45, s302_46, s302_47, s302_48, s302_49, s302_50, s302_53, s302_55, s302_56, s302_57, s302_58, s302_59, s302_60, s302_63, s302_64, s302_65, s302_66, s302_67, s302_68, s302_71, s302_77, s302_80, zps_0, zps_1, zps_2, zps_3, zps_9, Option.bind_some, Option.bind_none, Int.reduceEq, Int.reduceNe, Int.reduceLT, Int.reduceLE, Int.reduceNeg, Int.reduceAdd, Int.reduceSub, Int.reduceMul, reduceIte, if_true, if_false, true_and, and_true, false_and, and_false, or_true, true_or, or_false, false_or, not_true_eq_false, not_false_eq_true, ite_not, z_b0, z_b1, z_b01, rMK0 hM, rMK1 hM, rMK2 hM, rMK3 hM, rMK4 hM, rMK5 hM, rMK6 hM, rMK7 hM, rMK8 hM, rMK9 hM, rMK10 hM, rMK11 hM, rMK12 hM, rMK13 hM, rMK14 hM, rMK15 hM, rMK16 hM, rMK17 hM, rMK18 hM, rMK19 hM, rMK20 hM, rMK21 hM, rMK22 hM, rMK23 hM, rMK24 hM, rMK25 hM, rMK26 hM, rMK27 hM, rMK28 hM, rMK29 hM, rMK30 hM, rMK31 hM, rMK32 hM, rMK33 hM, rMK34 hM, rMK35 hM, rMK36 hM, rMK37 hM, rMK38 hM, rMK39 hM, rMK40 hM, rMK41 hM, rMK42 hM, rMK43 hM, rMK44 hM, rMK45 hM, rMK46 hM, rMK47 hM, rMK48 hM, rMK49 hM, rMK50 hM, rMK51 hM, kMK0, kMK1, kMK2, kMK3, kMK4, kMK5, kMK6, kMK7, kMK8, kMK9, kMK10, kMK11, kMK12, kMK13, kMK14, kMK15, kMK16, kMK17, kMK18, kMK19, kMK20, kMK21, kMK22, kMK23, kMK24, kMK25, kMK26, kMK27, kMK28, kMK29, kMK30, kMK31, kMK32, kMK33, kMK34, kMK35, kMK36, kMK37, kMK38, kMK39, kMK40, kMK41, kMK42, kMK43, kMK44, kMK45, kMK46, kMK47, kMK48, kMK49, kMK50, kMK51, kMK52, kMK53, kMK54, kMK55, kMK56, kMK57, kMK58, kMK59, kMK60, kMK61, kMK62, kMK63, kMK64, kMK65, kMK66, kMK67, kMK68, kMK69, kMK70, kMK71, kMK72, kMK73, kMK74, kMK75, kMK76, kMK77, kMK78, kMK79, kMK80, kMK81, kMK82, kMK83, kMK84, kMK85, kMK86, kMK87, kMK88, kMK89, kMK90, kMK91, kMK92, kMK93, kMK94, kMK95, kMK96, kMK97, kMK98, kMK99, kMK100, kMK101, kMK102, kMK103, kMK104, r141, r142, hu, hi, c1, e, z1, z2, z3, z4, c2, c3, v1, v2, ED, eb, z5, and_self, if_true, if_false, zup_zpr, zpr_at, zpr_zpr]
        refine ih _ ⟨by omega, fun e' e0 e1 => ?_⟩
        rw [show (i + 1).toNat = i.toNat + 1 by omega]
        simp only [zcnt]
        rw [show ((i.toNat : Nat) : Int) = i by omega, zrw_if]
        by_cases q : e' = wEd (T.2 (64 * u + (i - 1))) (T.2 (64 * u + i))
        · subst q
          rw [if_pos rfl, if_pos (decide_eq_true ⟨i0, by unfold zed; rfl⟩), be]
          omega
        · rw [if_neg q, if_neg (by simp only [decide_eq_true_eq]; intro z; unfold zed at z; exact q z.2.symm), hI e' e0 e1]
          omega
      · rintro f ⟨-, hI⟩
        refine ⟨f, T.1 u, ?_, fun e' e0 e1 => by rw [hI e' e0 e1]; rfl⟩
        rw [s302_16]
        simp only [s302_0, s302_1, s302_4, s302_5, s302_7, s302_8, s302_11, s302_14, s302_15, s302_17, s302_18, s302_21, s302_22, s302_23, s302_26, s302_27, s302_28, s302_31, s302_32, s302_35, s302_36, s302_37, s302_40, s302_42, s302_43, s302_44, s302_45, s302_46, s302_47, s302_48, s302_49, s302_50, s302_53, s302_55, s302_56, s302_57, s302_58, s302_59, s302_60, s302_63, s302_64, s302_65, s302_66, s302_67, s302_68, s302_71, s302_77, s302_80, zps_0, zps_1, zps_2, zps_3, zps_9, Option.bind_some, Option.bind_none, Int.reduceEq, Int.reduceNe, Int.reduceLT, Int.reduceLE, Int.reduceNeg, Int.reduceAdd, Int.reduceSub, Int.reduceMul, reduceIte, if_true, if_false, true_and, and_true, false_and, and_false, or_true, true_or, or_false, false_or, not_true_eq_false, not_false_eq_true, ite_not, z_b0, z_b1, z_b01, rMK0 hM, rMK1 hM, rMK2 hM, rMK3 hM, rMK4 hM, rMK5 hM, rMK6 hM, rMK7 hM, rMK8 hM, rMK9 hM, rMK10 hM, rMK11 hM, rMK12 hM, rMK13 hM, rMK14 hM, rMK15 hM, rMK16 hM, rMK17 hM, rMK18 hM, rMK19 hM, rMK20 hM, rMK21 hM, rMK22 hM, rMK23 hM, rMK24 hM, rMK25 hM, rMK26 hM, rMK27 hM, rMK28 hM, rMK29 hM, rMK30 hM, rMK31 hM, rMK32 hM, rMK33 hM, rMK34 hM, rMK35 hM, rMK36 hM, rMK37 hM, rMK38 hM, rMK39 hM, rMK40 hM, rMK41 hM, rMK42 hM, rMK43 hM, rMK44 hM, rMK45 hM, rMK46 hM, rMK47 hM, rMK48 hM, rMK49 hM, rMK50 hM, rMK51 hM, kMK0, kMK1, kMK2, kMK3, kMK4, kMK5, kMK6, kMK7, kMK8, kMK9, kMK10, kMK11, kMK12, kMK13, kMK14, kMK15, kMK16, kMK17, kMK18, kMK19, kMK20, kMK21, kMK22, kMK23, kMK24, kMK25, kMK26, kMK27, kMK28, kMK29, kMK30, kMK31, kMK32, kMK33, kMK34, kMK35, kMK36, kMK37, kMK38, kMK39, kMK40, kMK41, kMK42, kMK43, kMK44, kMK45, kMK46, kMK47, kMK48, kMK49, kMK50, kMK51, kMK52, kMK53, kMK54, kMK55, kMK56, kMK57, kMK58, kMK59, kMK60, kMK61, kMK62, kMK63, kMK64, kMK65, kMK66, kMK67, kMK68, kMK69, kMK70, kMK71, kMK72, kMK73, kMK74, kMK75, kMK76, kMK77, kMK78, kMK79, kMK80, kMK81, kMK82, kMK83, kMK84, kMK85, kMK86, kMK87, kMK88, kMK89, kMK90, kMK91, kMK92, kMK93, kMK94, kMK95, kMK96, kMK97, kMK98, kMK99, kMK100, kMK101, kMK102, kMK103, kMK104, r141, hu, Int.le_refl, and_self, if_true]
theorem tz_mlayCrowd (hM : MK R) (hn8 : n ≤ 8) (h62 : y 100 62 = n) (hT : ∀ u : Int, 0 ≤ u → u < n → TMw y T u ∧ TOt w T u) (but : Int) : ∃ g : Int → Int, ev 302 0 [(2, 100), (0, but), (9, 0), (9, 0)] [] R y = some ((9, 0), R, zpr y 135 g) ∧ ∀ e, 0 ≤ e → e < 128 → g e = tCw T n but e := by
  have CC := tz_mclearC (R := R) (y := y) hM
  have L0 : ev 302 0 [(2, 100), (0, but), (9, 0), (9, 0)] [] R y = ev 302 6 [(2, 100), (0, but), (0, 0), (9, 0)] [] R (zpr y 135 (zfll (y 135) 128 0)) := by
    simp only [s302_0, s302_1, s302_4, s302_5, s302_7, s302_8, s302_11, s302_14, s302_15, s302_17, s302_18, s302_21, s302_22, s302_23, s302_26, s302_27, s302_28, s302_31, s302_32, s302_35, s302_36, s302_37, s302_40, s302_42, s302_43, s302_44, s302_45, s302_46, s302_47, s302_48, s302_49, s302_50, s302_53, s302_55, s302_56, s302_57, s302_58, s302_59, s302_60, s302_63, s302_64, s302_65, s302_66, s302_67, s302_68, s302_71, s302_74, s302_77, s302_80, zps_0, zps_1, zps_2, zps_3, zps_9, Option.bind_some, Option.bind_none, Int.reduceEq, Int.reduceNe, Int.reduceLT, Int.reduceLE, Int.reduceNeg, Int.reduceAdd, Int.reduceSub, Int.reduceMul, reduceIte, if_true, if_false, true_and, and_true, false_and, and_false, or_true, true_or, or_false, false_or, not_true_eq_false, not_false_eq_true, ite_not, z_b0, z_b1, z_b01, rMK0 hM, rMK1 hM, rMK2 hM, rMK3 hM, rMK4 hM, rMK5 hM, rMK6 hM, rMK7 hM, rMK8 hM, rMK9 hM, rMK10 hM, rMK11 hM, rMK12 hM, rMK13 hM, rMK14 hM, rMK15 hM, rMK16 hM, rMK17 hM, rMK18 hM, rMK19 hM, rMK20 hM, rMK21 hM, rMK22 hM, rMK23 hM, rMK24 hM, rMK25 hM, rMK26 hM, rMK27 hM, rMK28 hM, rMK29 hM, rMK30 hM, rMK31 hM, rMK32 hM, rMK33 hM, rMK34 hM, rMK35 hM, rMK36 hM, rMK37 hM, rMK38 hM, rMK39 hM, rMK40 hM, rMK41 hM, rMK42 hM, rMK43 hM, rMK44 hM, rMK45 hM, rMK46 hM, rMK47 hM, rMK48 hM, rMK49 hM, rMK50 hM, rMK51 hM, kMK0, kMK1, kMK2, kMK3, kMK4, kMK5, kMK6, kMK7, kMK8, kMK9, kMK10, kMK11, kMK12, kMK13, kMK14, kMK15, kMK16, kMK17, kMK18, kMK19, kMK20, kMK21, kMK22, kMK23, kMK24, kMK25, kMK26, kMK27, kMK28, kMK29, kMK30, kMK31, kMK32, kMK33, kMK34, kMK35, kMK36, kMK37, kMK38, kMK39, kMK40, kMK41, kMK42, kMK43, kMK44, kMK45, kMK46, kMK47, kMK48, kMK49, kMK50, kMK51, kMK52, kMK53, kMK54, kMK55, kMK56, kMK57, kMK58, kMK59, kMK60, kMK61, kMK62, kMK63, kMK64, kMK65, kMK66, kMK67, kMK68, kMK69, kMK70, kMK71, kMK72, kMK73, kMK74, kMK75, kMK76, kMK77, kMK78, kMK79, kMK80, kMK81, kMK82, kMK83, kMK84, kMK85, kMK86, kMK87, kMK88, kMK89, kMK90, kMK91, kMK92, kMK93, kMK94, kMK95, kMK96, kMK97, kMK98, kMK99, kMK100, kMK101, kMK102, kMK103, kMK104, CC]
  rw [L0]
  have key : ∀ k : Nat, k ≤ n → ∃ (g : Int → Int) (l3 : zV), ev 302 6 [(2, 100), (0, but), (0, 0), (9, 0)] [] R (zpr y 135 (zfll (y 135) 128 0)) = ev 302 6 [(2, 100), (0, but), (0, (k : Int)), l3] [] R (zpr y 135 g) ∧ ∀ e, 0 ≤ e → e < 128 → g e = tCw T k but e := by
    intro k
    induction k with
    | zero => intro _; exact ⟨_, (9, 0), rfl, fun e e0 e1 => by rw [zfll_at ⟨e0, e1⟩]; unfold tCw; rfl⟩
    | succ k ih =>
      intro hk
      obtain ⟨g, l3, e1, hg⟩ := ih (by omega)
      obtain ⟨tm, ok⟩ := hT k (by omega) (by omega)
      obtain ⟨g', l3', e2, hg'⟩ := tz_mlc1 (R := R) (y := y) (w := w) (T := T) (u := (k : Int)) (but := but) hM ⟨by omega, by omega⟩ tm ok (g := g) (fun e e0 e1 => by
        rw [hg e e0 e1]
        exact tCw_b (n := k) (by omega) (fun t t0 t1 => (hT t t0 (by omega)).2) but e)
      have c1 : (k : Int) < n := by omega
      have c2 : ¬ (n : Int) ≤ k := by omega
      have z1 : zw ((k : Int) + 1) = ((k + 1 : Nat) : Int) := by rw [zw_i (by omega) (by omega)]; rfl
      have r62 : ∀ g : Int → Int, zpr y 135 g 100 62 = n := fun g => by rw [zpr_ne (by decide)]; exact h62
      refine ⟨g', (0, l3'), ?_, fun e e0 e1 => ?_⟩
      · rw [e1, s302_6]
        have : ev 302 6 [(2, 100), (0, but), (0, ((k + 1 : Nat) : Int)), (0, l3')] [] R (zpr y 135 g') = ev 302 74 [(2, 100), (0, but), (0, (k : Int)), (0, l3')] [] R (zpr y 135 g') := by
          simp only [s302_0, s302_1, s302_4, s302_5, s302_7, s302_8, s302_11, s302_14, s302_15, s302_17, s302_18, s302_21, s302_22, s302_23, s302_26, s302_27, s302_28, s302_31, s302_32, s302_35, s302_36, s302_37, s302_40, s302_42, s302_43, s302_44, s302_45, s302_46, s302_47, s302_48, s302_49, s302_50, s302_53, s302_55, s302_56, s302_57, s302_58, s302_59, s302_60, s302_63, s302_64, s302_65, s302_66, s302_67, s302_68, s302_71, s302_74, s302_77, s302_80, zps_0, zps_1, zps_2, zps_3, zps_9, Option.bind_some, Option.bind_none, Int.reduceEq, Int.reduceNe, Int.reduceLT, Int.reduceLE, Int.reduceNeg, Int.reduceAdd, Int.reduceSub, Int.reduceMul, reduceIte, if_true, if_false, true_and, and_true, false_and, and_false, or_true, true_or, or_false, false_or, not_true_eq_false, not_false_eq_true, ite_not, z_b0, z_b1, z_b01, z1]
        rw [this, ← e2]
        simp only [s302_0, s302_1, s302_4, s302_5, s302_7, s302_8, s302_11, s302_14, s302_15, s302_17, s302_18, s302_21, s302_22, s302_23, s302_26, s302_27, s302_28, s302_31, s302_32, s302_35, s302_36, s302_37, s302_40, s302_42, s302_43, s302_44, s302_45, s302_46, s302_47, s302_48, s302_49, s302_50, s302_53, s302_55, s302_56, s302_57, s302_58, s302_59, s302_60, s302_63, s302_64, s302_65, s302_66, s302_67, s302_68, s302_71, s302_74, s302_77, s302_80, zps_0, zps_1, zps_2, zps_3, zps_9, Option.bind_some, Option.bind_none, Int.reduceEq, Int.reduceNe, Int.reduceLT, Int.reduceLE, Int.reduceNeg, Int.reduceAdd, Int.reduceSub, Int.reduceMul, reduceIte, if_true, if_false, true_and, and_true, false_and, and_false, or_true, true_or, or_false, false_or, not_true_eq_false, not_false_eq_true, ite_not, z_b0, z_b1, z_b01, rMK0 hM, rMK1 hM, rMK2 hM, rMK3 hM, rMK4 hM, rMK5 hM, rMK6 hM, rMK7 hM, rMK8 hM, rMK9 hM, rMK10 hM, rMK11 hM, rMK12 hM, rMK13 hM, rMK14 hM, rMK15 hM, rMK16 hM, rMK17 hM, rMK18 hM, rMK19 hM, rMK20 hM, rMK21 hM, rMK22 hM, rMK23 hM, rMK24 hM, rMK25 hM, rMK26 hM, rMK27 hM, rMK28 hM, rMK29 hM, rMK30 hM, rMK31 hM, rMK32 hM, rMK33 hM, rMK34 hM, rMK35 hM, rMK36 hM, rMK37 hM, rMK38 hM, rMK39 hM, rMK40 hM, rMK41 hM, rMK42 hM, rMK43 hM, rMK44 hM, rMK45 hM, rMK46 hM, rMK47 hM, rMK48 hM, rMK49 hM, rMK50 hM, rMK51 hM, kMK0, kMK1, kMK2, kMK3, kMK4, kMK5, kMK6, kMK7, kMK8, kMK9, kMK10, kMK11, kMK12, kMK13, kMK14, kMK15, kMK16, kMK17, kMK18, kMK19, kMK20, kMK21, kMK22, kMK23, kMK24, kMK25, kMK26, kMK27, kMK28, kMK29, kMK30, kMK31, kMK32, kMK33, kMK34, kMK35, kMK36, kMK37, kMK38, kMK39, kMK40, kMK41, kMK42, kMK43, kMK44, kMK45, kMK46, kMK47, kMK48, kMK49, kMK50, kMK51, kMK52, kMK53, kMK54, kMK55, kMK56, kMK57, kMK58, kMK59, kMK60, kMK61, kMK62, kMK63, kMK64, kMK65, kMK66, kMK67, kMK68, kMK69, kMK70, kMK71, kMK72, kMK73, kMK74, kMK75, kMK76, kMK77, kMK78, kMK79, kMK80, kMK81, kMK82, kMK83, kMK84, kMK85, kMK86, kMK87, kMK88, kMK89, kMK90, kMK91, kMK92, kMK93, kMK94, kMK95, kMK96, kMK97, kMK98, kMK99, kMK100, kMK101, kMK102, kMK103, kMK104, r62, c1, c2, if_true, if_false]
      · rw [hg' e e0 e1, hg e e0 e1]
        unfold tCw
        simp only [zsum]
  obtain ⟨g, l3, e1, hg⟩ := key n (Nat.le_refl _)
  have r62 : ∀ g : Int → Int, zpr y 135 g 100 62 = n := fun g => by rw [zpr_ne (by decide)]; exact h62
  refine ⟨g, ?_, hg⟩
  rw [e1, s302_6]
  simp only [s302_0, s302_1, s302_4, s302_5, s302_7, s302_8, s302_11, s302_14, s302_15, s302_17, s302_18, s302_21, s302_22, s302_23, s302_26, s302_27, s302_28, s302_31, s302_32, s302_35, s302_36, s302_37, s302_40, s302_42, s302_43, s302_44, s302_45, s302_46, s302_47, s302_48, s302_49, s302_50, s302_53, s302_55, s302_56, s302_57, s302_58, s302_59, s302_60, s302_63, s302_64, s302_65, s302_66, s302_67, s302_68, s302_71, s302_74, s302_77, s302_80, zps_0, zps_1, zps_2, zps_3, zps_9, Option.bind_some, Option.bind_none, Int.reduceEq, Int.reduceNe, Int.reduceLT, Int.reduceLE, Int.reduceNeg, Int.reduceAdd, Int.reduceSub, Int.reduceMul, reduceIte, if_true, if_false, true_and, and_true, false_and, and_false, or_true, true_or, or_false, false_or, not_true_eq_false, not_false_eq_true, ite_not, z_b0, z_b1, z_b01, rMK0 hM, rMK1 hM, rMK2 hM, rMK3 hM, rMK4 hM, rMK5 hM, rMK6 hM, rMK7 hM, rMK8 hM, rMK9 hM, rMK10 hM, rMK11 hM, rMK12 hM, rMK13 hM, rMK14 hM, rMK15 hM, rMK16 hM, rMK17 hM, rMK18 hM, rMK19 hM, rMK20 hM, rMK21 hM, rMK22 hM, rMK23 hM, rMK24 hM, rMK25 hM, rMK26 hM, rMK27 hM, rMK28 hM, rMK29 hM, rMK30 hM, rMK31 hM, rMK32 hM, rMK33 hM, rMK34 hM, rMK35 hM, rMK36 hM, rMK37 hM, rMK38 hM, rMK39 hM, rMK40 hM, rMK41 hM, rMK42 hM, rMK43 hM, rMK44 hM, rMK45 hM, rMK46 hM, rMK47 hM, rMK48 hM, rMK49 hM, rMK50 hM, rMK51 hM, kMK0, kMK1, kMK2, kMK3, kMK4, kMK5, kMK6, kMK7, kMK8, kMK9, kMK10, kMK11, kMK12, kMK13, kMK14, kMK15, kMK16, kMK17, kMK18, kMK19, kMK20, kMK21, kMK22, kMK23, kMK24, kMK25, kMK26, kMK27, kMK28, kMK29, kMK30, kMK31, kMK32, kMK33, kMK34, kMK35, kMK36, kMK37, kMK38, kMK39, kMK40, kMK41, kMK42, kMK43, kMK44, kMK45, kMK46, kMK47, kMK48, kMK49, kMK50, kMK51, kMK52, kMK53, kMK54, kMK55, kMK56, kMK57, kMK58, kMK59, kMK60, kMK61, kMK62, kMK63, kMK64, kMK65, kMK66, kMK67, kMK68, kMK69, kMK70, kMK71, kMK72, kMK73, kMK74, kMK75, kMK76, kMK77, kMK78, kMK79, kMK80, kMK81, kMK82, kMK83, kMK84, kMK85, kMK86, kMK87, kMK88, kMK89, kMK90, kMK91, kMK92, kMK93, kMK94, kMK95, kMK96, kMK97, kMK98, kMK99, kMK100, kMK101, kMK102, kMK103, kMK104, r62, Int.le_refl, if_true]
theorem tz_mtakenBy (hM : MK R) (hV : MV w) (hm : MMs w y c) (ht : 0 ≤ t ∧ t < 8) (hT : TMw y T t) (hO : TOt w T t) : ev 303 0 [(2, 100), (0, t), (9, 0), (9, 0)] [] R y = some ((0, tTk (wX w c) T t), R, y) := by
  have hc := MMs_c hm
  have q0 := MMs_q0 hm
  have bd : ∀ k : Nat, (k : Int) ≤ T.1 t → 0 ≤ zsum (fun i => if 1 ≤ i then wTk (wX w c) (T.2 (64 * t + (i - 1))) (T.2 (64 * t + i)) else 0) k ∧ zsum (fun i => if 1 ≤ i then wTk (wX w c) (T.2 (64 * t + (i - 1))) (T.2 (64 * t + i)) else 0) k < 200000 := by
    intro k hk
    have := tTk_b (T := (fun _ => (k : Int), T.2)) (t := t) hV hc ⟨⟨by dsimp only; omega, by have := hO.1.2; dsimp only; omega⟩, fun i i0 i1 => hO.2.1 i i0 (by dsimp only at i1; omega), fun i i0 i1 => hO.2.2 i i0 (by dsimp only at i1; omega)⟩
    unfold tTk at this
    dsimp only at this
    rw [show ((k : Int)).toNat = k by omega] at this
    exact this
  have L0 : ev 303 0 [(2, 100), (0, t), (9, 0), (9, 0)] [] R y = ev 303 4 [(2, 100), (0, t), (0, 0), (0, 1)] [] R y := by
    simp only [s303_0, s303_1, s303_2, s303_3, s303_5, s303_6, s303_9, s303_10, s303_11, s303_14, s303_15, s303_16, s303_17, s303_20, s303_22, s303_23, s303_24, s303_25, s303_26, s303_27, s303_28, s303_29, s303_30, s303_33, s303_35, s303_36, s303_37, s303_38, s303_39, s303_40, s303_43, s303_44, s303_45, s303_48, s303_51, s303_52, zps_0, zps_1, zps_2, zps_3, zps_9, Option.bind_some, Option.bind_none, Int.reduceEq, Int.reduceNe, Int.reduceLT, Int.reduceLE, Int.reduceNeg, Int.reduceAdd, Int.reduceSub, Int.reduceMul, reduceIte, if_true, if_false, true_and, and_true, false_and, and_false, or_true, true_or, or_false, false_or, not_true_eq_false, not_false_eq_true, ite_not, z_b0, z_b1, z_b01]
  rw [L0]
  have h1 := hT.1
  have sum1 : ∀ f : Int → Int, zsum (fun i => if 1 ≤ i then f i else 0) (1 : Int).toNat = 0 := by
    intro f
    show zsum (fun i => if 1 ≤ i then f i else 0) 1 = 0
    simp only [zsum]
    rw [if_neg (by omega)]
    omega
  by_cases big : T.1 t ≤ 1
  · have b1 : ¬ (1 : Int) < T.1 t := by omega
    have z : tTk (wX w c) T t = 0 := by
      unfold tTk
      by_cases z : T.1 t = 1
      · rw [z]; exact sum1 _
      · rw [show T.1 t = 0 by have := hO.1.1; omega]; rfl
    rw [s303_4, z]
    simp only [s303_0, s303_1, s303_2, s303_3, s303_5, s303_6, s303_9, s303_10, s303_11, s303_14, s303_15, s303_16, s303_17, s303_20, s303_22, s303_23, s303_24, s303_25, s303_26, s303_27, s303_28, s303_29, s303_30, s303_33, s303_35, s303_36, s303_37, s303_38, s303_39, s303_40, s303_43, s303_44, s303_45, s303_48, s303_51, s303_52, zps_0, zps_1, zps_2, zps_3, zps_9, Option.bind_some, Option.bind_none, Int.reduceEq, Int.reduceNe, Int.reduceLT, Int.reduceLE, Int.reduceNeg, Int.reduceAdd, Int.reduceSub, Int.reduceMul, reduceIte, if_true, if_false, true_and, and_true, false_and, and_false, or_true, true_or, or_false, false_or, not_true_eq_false, not_false_eq_true, ite_not, z_b0, z_b1, z_b01, rMK0 hM, rMK1 hM, rMK2 hM, rMK3 hM, rMK4 hM, rMK5 hM, rMK6 hM, rMK7 hM, rMK8 hM, rMK9 hM, rMK10 hM, rMK11 hM, rMK12 hM, rMK13 hM, rMK14 hM, rMK15 hM, rMK16 hM, rMK17 hM, rMK18 hM, rMK19 hM, rMK20 hM, rMK21 hM, rMK22 hM, rMK23 hM, rMK24 hM, rMK25 hM, rMK26 hM, rMK27 hM, rMK28 hM, rMK29 hM, rMK30 hM, rMK31 hM, rMK32 hM, rMK33 hM, rMK34 hM, rMK35 hM, rMK36 hM, rMK37 hM, rMK38 hM, rMK39 hM, rMK40 hM, rMK41 hM, rMK42 hM, rMK43 hM, rMK44 hM, rMK45 hM, rMK46 hM, rMK47 hM, rMK48 hM, rMK49 hM, rMK50 hM, rMK51 hM, kMK0, kMK1, kMK2, kMK3, kMK4, kMK5, kMK6, kMK7, kMK8, kMK9, kMK10, kMK11, kMK12, kMK13, kMK14, kMK15, kMK16, kMK17, kMK18, kMK19, kMK20, kMK21, kMK22, kMK23, kMK24, kMK25, kMK26, kMK27, kMK28, kMK29, kMK30, kMK31, kMK32, kMK33, kMK34, kMK35, kMK36, kMK37, kMK38, kMK39, kMK40, kMK41, kMK42, kMK43, kMK44, kMK45, kMK46, kMK47, kMK48, kMK49, kMK50, kMK51, kMK52, kMK53, kMK54, kMK55, kMK56, kMK57, kMK58, kMK59, kMK60, kMK61, kMK62, kMK63, kMK64, kMK65, kMK66, kMK67, kMK68, kMK69, kMK70, kMK71, kMK72, kMK73, kMK74, kMK75, kMK76, kMK77, kMK78, kMK79, kMK80, kMK81, kMK82, kMK83, kMK84, kMK85, kMK86, kMK87, kMK88, kMK89, kMK90, kMK91, kMK92, kMK93, kMK94, kMK95, kMK96, kMK97, kMK98, kMK99, kMK100, kMK101, kMK102, kMK103, kMK104, h1, ht, b1, big, and_self, if_true, if_false]
  · refine zloop (fun r => r = some ((0, tTk (wX w c) T t), R, y)) (fun i (s : Int) => ev 303 4 [(2, 100), (0, t), (0, s), (0, i)] [] R y) (T.1 t) (fun i s => 1 ≤ i ∧ s = zsum (fun i => if 1 ≤ i then wTk (wX w c) (T.2 (64 * t + (i - 1))) (T.2 (64 * t + i)) else 0) i.toNat) ?_ ?_ 1 0 (by omega) ⟨by omega, (sum1 _).symm⟩
    · rintro i s hi ⟨i0, hI⟩ ih
      have c1 : ¬ T.1 t ≤ i := by omega
      have le := hO.1.2
      have z1 : zw (64 * t) = 64 * t := zw_i (by omega) (by omega)
      have z2 : zw (64 * t + i) = 64 * t + i := zw_i (by omega) (by omega)
      have z3 : zw (64 * t + i - 1) = 64 * t + (i - 1) := by rw [zw_i (by omega) (by omega)]; omega
      have z4 : zw (i + 1) = i + 1 := zw_i (by omega) (by omega)
      have c2 : 0 ≤ 64 * t + i ∧ 64 * t + i < 512 := by omega
      have c3 : 0 ≤ 64 * t + (i - 1) ∧ 64 * t + (i - 1) < 512 := by omega
      have v1 := hT.2 (i - 1) (by omega) (by omega)
      have v2 := hT.2 i (by omega) hi
      have p1 := hO.2.1 (i - 1) (by omega) (by omega)
      have p2 := hO.2.1 i (by omega) hi
      obtain ⟨s1, s2, fz⟩ := hO.2.2 i i0 hi
      rw [← wX_St w c, ← zq0_St q0] at s1 s2
      have TK := tz_mtakes (R := R) hM (QM_MV hm.1 hV) (MMs_Cr hm) s1 s2
      rw [zq0_Tk q0 p1 p2] at TK
      have nx : zsum (fun i => if 1 ≤ i then wTk (wX w c) (T.2 (64 * t + (i - 1))) (T.2 (64 * t + i)) else 0) (i + 1).toNat = s + wTk (wX w c) (T.2 (64 * t + (i - 1))) (T.2 (64 * t + i)) := by
        rw [show (i + 1).toNat = i.toNat + 1 by omega, hI]
        simp only [zsum]
        rw [show ((i.toNat : Nat) : Int) = i by omega, if_pos i0]
      have b2 := bd (i + 1).toNat (by omega)
      rw [nx] at b2
      have z5 : zw (s + wTk (wX w c) (T.2 (64 * t + (i - 1))) (T.2 (64 * t + i))) = s + wTk (wX w c) (T.2 (64 * t + (i - 1))) (T.2 (64 * t + i)) := zw_i (by omega) (by omega)
      rw [s303_4]
      simp only [s303_0, s303_1, s303_2, s303_3, s303_5, s303_6, s303_9, s303_10, s303_11, s303_14, s303_15, s303_16, s303_17, s303_20, s303_22, s303_23, s303_24, s303_25, s303_26, s303_27, s303_28, s303_29, s303_30, s303_33, s303_35, s303_36, s303_37, s303_38, s303_39, s303_40, s303_43, s303_44, s303_45, s303_48, s303_51, s303_52, zps_0, zps_1, zps_2, zps_3, zps_9, Option.bind_some, Option.bind_none, Int.reduceEq, Int.reduceNe, Int.reduceLT, Int.reduceLE, Int.reduceNeg, Int.reduceAdd, Int.reduceSub, Int.reduceMul, reduceIte, if_true, if_false, true_and, and_true, false_and, and_false, or_true, true_or, or_false, false_or, not_true_eq_false, not_false_eq_true, ite_not, z_b0, z_b1, z_b01, rMK0 hM, rMK1 hM, rMK2 hM, rMK3 hM, rMK4 hM, rMK5 hM, rMK6 hM, rMK7 hM, rMK8 hM, rMK9 hM, rMK10 hM, rMK11 hM, rMK12 hM, rMK13 hM, rMK14 hM, rMK15 hM, rMK16 hM, rMK17 hM, rMK18 hM, rMK19 hM, rMK20 hM, rMK21 hM, rMK22 hM, rMK23 hM, rMK24 hM, rMK25 hM, rMK26 hM, rMK27 hM, rMK28 hM, rMK29 hM, rMK30 hM, rMK31 hM, rMK32 hM, rMK33 hM, rMK34 hM, rMK35 hM, rMK36 hM, rMK37 hM, rMK38 hM, rMK39 hM, rMK40 hM, rMK41 hM, rMK42 hM, rMK43 hM, rMK44 hM, rMK45 hM, rMK46 hM, rMK47 hM, rMK48 hM, rMK49 hM, rMK50 hM, rMK51 hM, kMK0, kMK1, kMK2, kMK3, kMK4, kMK5, kMK6, kMK7, kMK8, kMK9, kMK10, kMK11, kMK12, kMK13, kMK14, kMK15, kMK16, kMK17, kMK18, kMK19, kMK20, kMK21, kMK22, kMK23, kMK24, kMK25, kMK26, kMK27, kMK28, kMK29, kMK30, kMK31, kMK32, kMK33, kMK34, kMK35, kMK36, kMK37, kMK38, kMK39, kMK40, kMK41, kMK42, kMK43, kMK44, kMK45, kMK46, kMK47, kMK48, kMK49, kMK50, kMK51, kMK52, kMK53, kMK54, kMK55, kMK56, kMK57, kMK58, kMK59, kMK60, kMK61, kMK62, kMK63, kMK64, kMK65, kMK66, kMK67, kMK68, kMK69, kMK70, kMK71, kMK72, kMK73, kMK74, kMK75, kMK76, kMK77, kMK78, kMK79, kMK80, kMK81, kMK82, kMK83, kMK84, kMK85, kMK86, kMK87, kMK88, kMK89, kMK90, kMK91, kMK92, kMK93, kMK94, kMK95, kMK96, kMK97, kMK98, kMK99, kMK100, kMK101, kMK102, kMK103, kMK104, h1, ht, hi, c1, z1, z2, z3, z4, c2, c3, v1, v2, TK, z5, and_self, if_true, if_false]
      exact ih _ ⟨by omega, nx.symm⟩
    · rintro s ⟨-, hI⟩
      rw [s303_4, hI]
      simp only [s303_0, s303_1, s303_2, s303_3, s303_5, s303_6, s303_9, s303_10, s303_11, s303_14, s303_15, s303_16, s303_17, s303_20, s303_22, s303_23, s303_24, s303_25, s303_26, s303_27, s303_28, s303_29, s303_30, s303_33, s303_35, s303_36, s303_37, s303_38, s303_39, s303_40, s303_43, s303_44, s303_45, s303_48, s303_51, s303_52, zps_0, zps_1, zps_2, zps_3, zps_9, Option.bind_some, Option.bind_none, Int.reduceEq, Int.reduceNe, Int.reduceLT, Int.reduceLE, Int.reduceNeg, Int.reduceAdd, Int.reduceSub, Int.reduceMul, reduceIte, if_true, if_false, true_and, and_true, false_and, and_false, or_true, true_or, or_false, false_or, not_true_eq_false, not_false_eq_true, ite_not, z_b0, z_b1, z_b01, rMK0 hM, rMK1 hM, rMK2 hM, rMK3 hM, rMK4 hM, rMK5 hM, rMK6 hM, rMK7 hM, rMK8 hM, rMK9 hM, rMK10 hM, rMK11 hM, rMK12 hM, rMK13 hM, rMK14 hM, rMK15 hM, rMK16 hM, rMK17 hM, rMK18 hM, rMK19 hM, rMK20 hM, rMK21 hM, rMK22 hM, rMK23 hM, rMK24 hM, rMK25 hM, rMK26 hM, rMK27 hM, rMK28 hM, rMK29 hM, rMK30 hM, rMK31 hM, rMK32 hM, rMK33 hM, rMK34 hM, rMK35 hM, rMK36 hM, rMK37 hM, rMK38 hM, rMK39 hM, rMK40 hM, rMK41 hM, rMK42 hM, rMK43 hM, rMK44 hM, rMK45 hM, rMK46 hM, rMK47 hM, rMK48 hM, rMK49 hM, rMK50 hM, rMK51 hM, kMK0, kMK1, kMK2, kMK3, kMK4, kMK5, kMK6, kMK7, kMK8, kMK9, kMK10, kMK11, kMK12, kMK13, kMK14, kMK15, kMK16, kMK17, kMK18, kMK19, kMK20, kMK21, kMK22, kMK23, kMK24, kMK25, kMK26, kMK27, kMK28, kMK29, kMK30, kMK31, kMK32, kMK33, kMK34, kMK35, kMK36, kMK37, kMK38, kMK39, kMK40, kMK41, kMK42, kMK43, kMK44, kMK45, kMK46, kMK47, kMK48, kMK49, kMK50, kMK51, kMK52, kMK53, kMK54, kMK55, kMK56, kMK57, kMK58, kMK59, kMK60, kMK61, kMK62, kMK63, kMK64, kMK65, kMK66, kMK67, kMK68, kMK69, kMK70, kMK71, kMK72, kMK73, kMK74, kMK75, kMK76, kMK77, kMK78, kMK79, kMK80, kMK81, kMK82, kMK83, kMK84, kMK85, kMK86, kMK87, kMK88, kMK89, kMK90, kMK91, kMK92, kMK93, kMK94, kMK95, kMK96, kMK97, kMK98, kMK99, kMK100, kMK101, kMK102, kMK103, kMK104, h1, ht, Int.le_refl, and_self, if_true]
      rfl
end MTRIP2
