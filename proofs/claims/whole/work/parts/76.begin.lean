/-! a town begins -/
section BEGIN
variable {R m w : zM} {t : Int}
def TB (m m' : zM) (t v h : Int) : Prop := zfr [t, t + 1, t + 2, t + 3, t + 4, t + 5, t + 6, t + 7, t + 9] m m' ∧ BN m' (t + 1) v h ∧ m' (t + 1) 3 = m (t + 1) 3 + 1 ∧ m' t = zrw (zrw (m t) 3 0) 4 0 ∧ m' (t + 7) = zrw (m (t + 7)) 0 0 ∧ m' (t + 9) = zrw (m (t + 9)) 0 0
theorem tz_tbegin (hB : TK R t) {v h : Int} (hv : 1 ≤ v ∧ v ≤ 8) (hh : 1 ≤ h ∧ h ≤ 8) (hC : 0 ≤ m (t + 1) 3 ∧ m (t + 1) 3 < 2000000000) (hN : NV m (t + 1) ∧ BV m (t + 1)) : ∃ m' : zM, ev 114 0 [(2, t), (0, v), (0, h)] [] R m = some ((9, 0), R, m') ∧ TB m m' t v h := by
  obtain ⟨m1, a1, f1, b1, c1⟩ := tz_bbegin (R := R) (m := m) (TK_B hB) hv hh hC (fun e0 e1 p p0 p1 => by
    have e2 : m (t + 1) 2 = v * h := by rw [hN.2.2.2.2.2.1, e0, e1]
    have := hN.1 p p0 (by rw [e2]; exact p1)
    rw [e0, e2] at this
    exact this)
  have g : ∀ a, a < t + 1 ∨ t + 6 < a → m1 a = m a := fun a ha => f1 a (by simp only [List.mem_cons, List.not_mem_nil, or_false, not_or]; omega)
  have E : ev 114 0 [(2, t), (0, v), (0, h)] [] R m = some ((9, 0), R, zpr (zpr (zpr m1 (t + 7) (zrw (m (t + 7)) 0 0)) (t + 9) (zrw (m (t + 9)) 0 0)) t (zrw (zrw (m t) 3 0) 4 0)) := by
    have e7 : m1 (t + 7) = m (t + 7) := g _ (by omega)
    have e9 : m1 (t + 9) = m (t + 9) := g _ (by omega)
    have e0 : m1 t = m t := g _ (by omega)
    obtain ⟨hTK0, hTK1, hTK2, hTK3, hTK4, hTK5, hTK6, hTK7, hTK8, hTK9, hTK10, hTK11, hTK12, hTK13, hTK14, hTK15, hTK16, hTK17, hTK18, hTK19, hTK20, hTK21, hTK22, hTK23, hTK24, hTK25, hTK26, hTK27, hTK28, hTK29, hTK30, hTK31, hTK32, hTK33, hTK34, hTK35, hTK36, hTK37, hTK38, hTK39, hTK40, hTK41, hTK42, hTK43, hTK44, hTK45, hTK46, hTK47, hTK48, hTK49, hTK50, hTK51, hTK52, hTK53, hTK54, hTK55, hTK56, hTK57, hTK58, hTK59, hTK60, hTK61, hTK62, hTK63, hTK64, hTK65, hTK66, hTK67, hTK68, hTK69, hTK70, hTK71, hTK72, hTK73, hTK74, hTK75, hTK76, hTK77, hTK78⟩ := hB
    simp only [s114_0, s114_1, s114_4, s114_5, s114_6, s114_9, s114_10, s114_13, s114_14, s114_17, s114_18, s114_21, s114_22, s114_25, s114_26, s114_27, s114_30, s114_31, s114_32, s114_35, zps_0, zps_1, zps_2, zps_3, zps_9, Option.bind_some, Option.bind_none, Int.reduceEq, Int.reduceNe, Int.reduceLT, Int.reduceLE, Int.reduceNeg, Int.reduceAdd, Int.reduceSub, Int.reduceMul, reduceIte, if_true, if_false, true_and, and_true, false_and, and_false, or_true, true_or, or_false, false_or, not_true_eq_false, not_false_eq_true, ite_not, z_b0, z_b1, z_b01, hTK0, hTK1, hTK2, hTK3, hTK4, hTK5, hTK6, hTK7, hTK8, hTK9, hTK10, hTK11, hTK12, hTK13, hTK14, hTK15, hTK16, hTK17, hTK18, hTK19, hTK20, hTK21, hTK22, hTK23, hTK24, hTK25, hTK26, hTK27, hTK28, hTK29, hTK30, hTK31, hTK32, hTK33, hTK34, hTK35, hTK36, hTK37, hTK38, hTK39, hTK40, hTK41, hTK42, hTK43, hTK44, hTK45, hTK46, hTK47, hTK48, hTK49, hTK50, hTK51, hTK52, hTK53, hTK54, hTK55, hTK56, hTK57, hTK58, hTK59, hTK60, hTK61, hTK62, hTK63, hTK64, hTK65, hTK66, hTK67, hTK68, hTK69, hTK70, hTK71, hTK72, hTK73, hTK74, hTK75, hTK76, hTK77, hTK78, a1, zup_zpr]
    simp (disch := omega) only [zpr_ne, zpr_at, e7, e9, e0, zpr_zpr]
  refine ⟨_, E, ?_, ?_, ?_, ?_, ?_, ?_⟩
  · intro a ha
    simp only [List.mem_cons, List.not_mem_nil, or_false, not_or] at ha
    rw [zpr_ne ha.1, zpr_ne (by omega), zpr_ne (by omega), g a]
    omega
  · have k : ∀ a, t + 1 ≤ a → a ≤ t + 6 → zpr (zpr (zpr m1 (t + 7) (zrw (m (t + 7)) 0 0)) (t + 9) (zrw (m (t + 9)) 0 0)) t (zrw (zrw (m t) 3 0) 4 0) a = m1 a := fun a h1 h2 => by rw [zpr_ne (by omega), zpr_ne (by omega), zpr_ne (by omega)]
    unfold BN BV NV NF at *
    simp only [tn_1_1, tn_1_2, tn_1_3, tn_1_4, tn_1_5, tn_7_1, tn_9_1, tn_9_2, tn_9_3, tn_9_4, tn_9_5, tn_9_6, tn_9_7, tn_9_8, tn_9_9, tn_9_10, tn_9_11, tn_9_12, tn_9_13, tn_9_14, tn_9_15] at *
    rw [k (t + 1) (by omega) (by omega), k (t + 2) (by omega) (by omega), k (t + 3) (by omega) (by omega), k (t + 4) (by omega) (by omega), k (t + 5) (by omega) (by omega), k (t + 6) (by omega) (by omega)]
    exact b1
  · rw [zpr_ne (by omega), zpr_ne (by omega), zpr_ne (by omega), c1]
  · rw [zpr_at]
  · rw [zpr_ne (by omega), zpr_ne (by omega), zpr_at]
  · rw [zpr_ne (by omega), zpr_at]
def zmclr (w : zM) : zM := zpr (zpr (zpr (zpr (zpr w 101 (zfll (w 101) 64 0)) 102 (zfll (w 102) 64 0)) 103 (zfll (w 103) 64 0)) 104 (zfll (w 104) 64 (-4))) 100 (zrw (zrw (zrw (zrw (w 100) 6 0) 7 0) 8 0) 10 0)
theorem zfll_step {f : Int → Int} {k v : Int} (h : 0 ≤ k) : zrw (zfll f k v) k v = zfll f (k + 1) v := by
  funext q
  rw [zrw_if]
  unfold zfll
  (repeat' split) <;> first | rfl | (exfalso; omega)
theorem tz_mclear (hM : MK R) : ev 230 0 [(2, 100), (9, 0)] [] R w = some ((9, 0), R, zmclr w) := by
  obtain ⟨W, hW⟩ : ∃ W : Int → zM, ∀ k, W k = zpr (zpr (zpr (zpr w 101 (zfll (w 101) k 0)) 102 (zfll (w 102) k 0)) 103 (zfll (w 103) k 0)) 104 (zfll (w 104) k (-4)) := ⟨_, fun _ => rfl⟩
  have st : ∀ k : Int, 0 ≤ k → k < 64 → ev 230 2 [(2, 100), (0, k)] [] R (W k) = ev 230 2 [(2, 100), (0, k + 1)] [] R (W (k + 1)) := by
    intro k k0 k1
    have c : ¬ 64 ≤ k := by omega
    have z : zw (k + 1) = k + 1 := zw_i (by omega) (by omega)
    rw [s230_2]
    simp only [s230_0, s230_1, s230_3, s230_5, s230_8, s230_9, s230_12, s230_13, s230_14, s230_15, s230_16, s230_19, s230_20, s230_21, s230_22, s230_23, s230_26, s230_27, s230_28, s230_29, s230_30, s230_33, s230_34, s230_36, s230_37, s230_40, s230_43, s230_44, s230_45, s230_48, s230_49, s230_50, s230_53, s230_54, s230_55, s230_58, s230_59, s230_60, s230_63, zps_0, zps_1, zps_2, zps_3, zps_9, Option.bind_some, Option.bind_none, Int.reduceEq, Int.reduceNe, Int.reduceLT, Int.reduceLE, Int.reduceNeg, Int.reduceAdd, Int.reduceSub, Int.reduceMul, reduceIte, if_true, if_false, true_and, and_true, false_and, and_false, or_true, true_or, or_false, false_or, not_true_eq_false, not_false_eq_true, ite_not, z_b0, z_b1, z_b01, rMK0 hM, rMK1 hM, rMK2 hM, rMK3 hM, rMK4 hM, rMK5 hM, rMK6 hM, rMK7 hM, rMK8 hM, rMK9 hM, rMK10 hM, rMK11 hM, rMK12 hM, rMK13 hM, rMK14 hM, rMK15 hM, rMK16 hM, rMK17 hM, rMK18 hM, rMK19 hM, rMK20 hM, rMK21 hM, rMK22 hM, rMK23 hM, rMK24 hM, rMK25 hM, rMK26 hM, rMK27 hM, rMK28 hM, rMK29 hM, rMK30 hM, rMK31 hM, rMK32 hM, rMK33 hM, rMK34 hM, rMK35 hM, rMK36 hM, rMK37 hM, rMK38 hM, rMK39 hM, rMK40 hM, rMK41 hM, rMK42 hM, rMK43 hM, rMK44 hM, rMK45 hM, rMK46 hM, rMK47 hM, rMK48 hM, rMK49 hM, rMK50 hM, rMK51 hM, kMK0, kMK1, kMK2, kMK3, kMK4, kMK5, kMK6, kMK7, kMK8, kMK9, kMK10, kMK11, kMK12, kMK13, kMK14, kMK15, kMK16, kMK17, kMK18, kMK19, kMK20, kMK21, kMK22, kMK23, kMK24, kMK25, kMK26, kMK27, kMK28, kMK29, kMK30, kMK31, kMK32, kMK33, kMK34, kMK35, kMK36, kMK37, kMK38, kMK39, kMK40, kMK41, kMK42, kMK43, kMK44, kMK45, kMK46, kMK47, kMK48, kMK49, kMK50, kMK51, kMK52, kMK53, kMK54, kMK55, kMK56, kMK57, kMK58, kMK59, kMK60, kMK61, kMK62, kMK63, kMK64, kMK65, kMK66, kMK67, kMK68, kMK69, kMK70, kMK71, kMK72, kMK73, kMK74, kMK75, kMK76, kMK77, kMK78, kMK79, kMK80, kMK81, kMK82, kMK83, kMK84, kMK85, kMK86, kMK87, kMK88, kMK89, kMK90, kMK91, kMK92, kMK93, kMK94, kMK95, kMK96, kMK97, kMK98, kMK99, kMK100, kMK101, kMK102, kMK103, kMK104, c, k0, k1, z, zup_zpr]
    simp (disch := decide) only [zpr_ne, zpr_at]
    rw [hW, hW]
    congr 1
    rw [← zfll_step k0, ← zfll_step k0, ← zfll_step k0, ← zfll_step k0]
    simp (disch := decide) only [zpr_ne, zpr_at]
    funext a
    by_cases a4 : a = 104
    · subst a4; simp (disch := decide) only [zpr_ne, zpr_at]
    · by_cases a3 : a = 103
      · subst a3; simp (disch := decide) only [zpr_ne, zpr_at]
      · by_cases a2 : a = 102
        · subst a2; simp (disch := decide) only [zpr_ne, zpr_at]
        · by_cases a1 : a = 101
          · subst a1; simp (disch := decide) only [zpr_ne, zpr_at]
          · simp (disch := assumption) only [zpr_ne]
  have fin : ev 230 2 [(2, 100), (0, 64)] [] R (W 64) = some ((9, 0), R, zmclr w) := by
    have e : W 64 100 = w 100 := by rw [hW, zpr_ne (by decide), zpr_ne (by decide), zpr_ne (by decide), zpr_ne (by decide)]
    rw [s230_2]
    simp only [s230_0, s230_1, s230_3, s230_5, s230_8, s230_9, s230_12, s230_13, s230_14, s230_15, s230_16, s230_19, s230_20, s230_21, s230_22, s230_23, s230_26, s230_27, s230_28, s230_29, s230_30, s230_33, s230_34, s230_36, s230_37, s230_40, s230_43, s230_44, s230_45, s230_48, s230_49, s230_50, s230_53, s230_54, s230_55, s230_58, s230_59, s230_60, s230_63, zps_0, zps_1, zps_2, zps_3, zps_9, Option.bind_some, Option.bind_none, Int.reduceEq, Int.reduceNe, Int.reduceLT, Int.reduceLE, Int.reduceNeg, Int.reduceAdd, Int.reduceSub, Int.reduceMul, reduceIte, if_true, if_false, true_and, and_true, false_and, and_false, or_true, true_or, or_false, false_or, not_true_eq_false, not_false_eq_true, ite_not, z_b0, z_b1, z_b01, rMK0 hM, rMK1 hM, rMK2 hM, rMK3 hM, rMK4 hM, rMK5 hM, rMK6 hM, rMK7 hM, rMK8 hM, rMK9 hM, rMK10 hM, rMK11 hM, rMK12 hM, rMK13 hM, rMK14 hM, rMK15 hM, rMK16 hM, rMK17 hM, rMK18 hM, rMK19 hM, rMK20 hM, rMK21 hM, rMK22 hM, rMK23 hM, rMK24 hM, rMK25 hM, rMK26 hM, rMK27 hM, rMK28 hM, rMK29 hM, rMK30 hM, rMK31 hM, rMK32 hM, rMK33 hM, rMK34 hM, rMK35 hM, rMK36 hM, rMK37 hM, rMK38 hM, rMK39 hM, rMK40 hM, rMK41 hM, rMK42 hM, rMK43 hM, rMK44 hM, rMK45 hM, rMK46 hM, rMK47 hM, rMK48 hM, rMK49 hM, rMK50 hM, rMK51 hM, kMK0, kMK1, kMK2, kMK3, kMK4, kMK5, kMK6, kMK7, kMK8, kMK9, kMK10, kMK11, kMK12, kMK13, kMK14, kMK15, kMK16, kMK17, kMK18, kMK19, kMK20, kMK21, kMK22, kMK23, kMK24, kMK25, kMK26, kMK27, kMK28, kMK29, kMK30, kMK31, kMK32, kMK33, kMK34, kMK35, kMK36, kMK37, kMK38, kMK39, kMK40, kMK41, kMK42, kMK43, kMK44, kMK45, kMK46, kMK47, kMK48, kMK49, kMK50, kMK51, kMK52, kMK53, kMK54, kMK55, kMK56, kMK57, kMK58, kMK59, kMK60, kMK61, kMK62, kMK63, kMK64, kMK65, kMK66, kMK67, kMK68, kMK69, kMK70, kMK71, kMK72, kMK73, kMK74, kMK75, kMK76, kMK77, kMK78, kMK79, kMK80, kMK81, kMK82, kMK83, kMK84, kMK85, kMK86, kMK87, kMK88, kMK89, kMK90, kMK91, kMK92, kMK93, kMK94, kMK95, kMK96, kMK97, kMK98, kMK99, kMK100, kMK101, kMK102, kMK103, kMK104, zup_zpr, zup_zpr, zpr_at, zpr_zpr, zrw_at, e]
    rw [hW]
    rfl
  have e0 : W 0 = w := by rw [hW]; simp only [zfll_0, zpr_self]
  have key := zloop (fun r => r = some ((9, 0), R, zmclr w)) (fun k (_ : Unit) => ev 230 2 [(2, 100), (0, k)] [] R (W k)) 64 (fun k _ => 0 ≤ k) (fun k a hk k0 ih => by rw [st k k0 hk]; exact ih () (by omega)) (fun a _ => fin) 0 () (by omega) (by omega)
  try dsimp only at key
  rw [e0] at key
  simp only [s230_0, s230_1, s230_3, s230_5, s230_8, s230_9, s230_12, s230_13, s230_14, s230_15, s230_16, s230_19, s230_20, s230_21, s230_22, s230_23, s230_26, s230_27, s230_28, s230_29, s230_30, s230_33, s230_34, s230_36, s230_37, s230_40, s230_43, s230_44, s230_45, s230_48, s230_49, s230_50, s230_53, s230_54, s230_55, s230_58, s230_59, s230_60, s230_63, zps_0, zps_1, zps_2, zps_3, zps_9, Option.bind_some, Option.bind_none, Int.reduceEq, Int.reduceNe, Int.reduceLT, Int.reduceLE, Int.reduceNeg, Int.reduceAdd, Int.reduceSub, Int.reduceMul, reduceIte, if_true, if_false, true_and, and_true, false_and, and_false, or_true, true_or, or_false, false_or, not_true_eq_false, not_false_eq_true, ite_not, z_b0, z_b1, z_b01]
  exact key
theorem tz_mcomes (hM : MK R) {c : Int} (hc : w 100 10 = c) (h20 : 0 ≤ c ∧ c < 20) (u pu ta y : Int) : ev 263 0 [(2, 100), (0, u), (0, pu), (0, ta), (0, y)] [] R w = some ((9, 0), R, zpr (zpr (zpr (zpr (zpr (zpr (zpr (zpr (zpr w 106 (zrw (w 106) c u)) 107 (zrw (w 107) c pu)) 108 (zrw (w 108) c ta)) 109 (zrw (w 109) c y)) 110 (zrw (w 110) c (-4))) 111 (zrw (w 111) c 0)) 112 (zrw (w 112) c 0)) 113 (zrw (w 113) c (-4))) 100 (zrw (w 100) 10 (c + 1))) := by
  have z : zw (c + 1) = c + 1 := zw_i (by omega) (by omega)
  simp only [s263_0, s263_1, s263_4, s263_5, s263_8, s263_9, s263_10, s263_11, s263_14, s263_15, s263_18, s263_19, s263_20, s263_21, s263_24, s263_25, s263_28, s263_29, s263_30, s263_31, s263_34, s263_35, s263_38, s263_40, s263_41, s263_42, s263_45, s263_46, s263_49, s263_51, s263_52, s263_53, s263_56, s263_57, s263_60, s263_61, s263_62, s263_63, s263_66, s263_67, s263_70, s263_71, s263_72, s263_73, s263_76, s263_77, s263_80, s263_82, s263_83, s263_84, s263_85, s263_88, s263_89, s263_90, s263_93, zps_0, zps_1, zps_2, zps_3, zps_9, Option.bind_some, Option.bind_none, Int.reduceEq, Int.reduceNe, Int.reduceLT, Int.reduceLE, Int.reduceNeg, Int.reduceAdd, Int.reduceSub, Int.reduceMul, reduceIte, if_true, if_false, true_and, and_true, false_and, and_false, or_true, true_or, or_false, false_or, not_true_eq_false, not_false_eq_true, ite_not, z_b0, z_b1, z_b01, rMK0 hM, rMK1 hM, rMK2 hM, rMK3 hM, rMK4 hM, rMK5 hM, rMK6 hM, rMK7 hM, rMK8 hM, rMK9 hM, rMK10 hM, rMK11 hM, rMK12 hM, rMK13 hM, rMK14 hM, rMK15 hM, rMK16 hM, rMK17 hM, rMK18 hM, rMK19 hM, rMK20 hM, rMK21 hM, rMK22 hM, rMK23 hM, rMK24 hM, rMK25 hM, rMK26 hM, rMK27 hM, rMK28 hM, rMK29 hM, rMK30 hM, rMK31 hM, rMK32 hM, rMK33 hM, rMK34 hM, rMK35 hM, rMK36 hM, rMK37 hM, rMK38 hM, rMK39 hM, rMK40 hM, rMK41 hM, rMK42 hM, rMK43 hM, rMK44 hM, rMK45 hM, rMK46 hM, rMK47 hM, rMK48 hM, rMK49 hM, rMK50 hM, rMK51 hM, kMK0, kMK1, kMK2, kMK3, kMK4, kMK5, kMK6, kMK7, kMK8, kMK9, kMK10, kMK11, kMK12, kMK13, kMK14, kMK15, kMK16, kMK17, kMK18, kMK19, kMK20, kMK21, kMK22, kMK23, kMK24, kMK25, kMK26, kMK27, kMK28, kMK29, kMK30, kMK31, kMK32, kMK33, kMK34, kMK35, kMK36, kMK37, kMK38, kMK39, kMK40, kMK41, kMK42, kMK43, kMK44, kMK45, kMK46, kMK47, kMK48, kMK49, kMK50, kMK51, kMK52, kMK53, kMK54, kMK55, kMK56, kMK57, kMK58, kMK59, kMK60, kMK61, kMK62, kMK63, kMK64, kMK65, kMK66, kMK67, kMK68, kMK69, kMK70, kMK71, kMK72, kMK73, kMK74, kMK75, kMK76, kMK77, kMK78, kMK79, kMK80, kMK81, kMK82, kMK83, kMK84, kMK85, kMK86, kMK87, kMK88, kMK89, kMK90, kMK91, kMK92, kMK93, kMK94, kMK95, kMK96, kMK97, kMK98, kMK99, kMK100, kMK101, kMK102, kMK103, kMK104, zup_zpr]
  simp (disch := decide) only [zpr_ne, zpr_at]
  simp only [hc, h20, zps_0, zps_1, zps_2, zps_3, zps_9, Option.bind_some, Option.bind_none, Int.reduceEq, Int.reduceNe, Int.reduceLT, Int.reduceLE, Int.reduceNeg, Int.reduceAdd, Int.reduceSub, Int.reduceMul, reduceIte, if_true, if_false, true_and, and_true, false_and, and_false, or_true, true_or, or_false, false_or, not_true_eq_false, not_false_eq_true, ite_not, z_b0, z_b1, z_b01, z, and_self, if_true]
theorem TR_begin {m m' : zM} {v h : Int} (hT : TB m m' t v h) (h0 : w 100 0 = v) (h1 : w 100 1 = h) : TR m' (zmclr w) t := by
  obtain ⟨-, hN, -, rt, r7, r9⟩ := hT
  obtain ⟨hB, hNV, b0, b1, b2, bz, bt⟩ := hN
  have e1 : zmclr w 101 = zfll (w 101) 64 0 := by unfold zmclr; simp (disch := decide) only [zpr_ne, zpr_at]
  have e2 : zmclr w 102 = zfll (w 102) 64 0 := by unfold zmclr; simp (disch := decide) only [zpr_ne, zpr_at]
  have e3 : zmclr w 103 = zfll (w 103) 64 0 := by unfold zmclr; simp (disch := decide) only [zpr_ne, zpr_at]
  have e4 : zmclr w 104 = zfll (w 104) 64 (-4) := by unfold zmclr; simp (disch := decide) only [zpr_ne, zpr_at]
  have e100 : zmclr w 100 = zrw (zrw (zrw (zrw (w 100) 6 0) 7 0) 8 0) 10 0 := by unfold zmclr; rw [zpr_at]
  have k0 : zmclr w 100 0 = v := by rw [e100, ← h0]; rfl
  have k1 : zmclr w 100 1 = h := by rw [e100, ← h1]; rfl
  have k6 : zmclr w 100 6 = 0 := by rw [e100]; rfl
  have k7 : zmclr w 100 7 = 0 := by rw [e100]; rfl
  have k8 : zmclr w 100 8 = 0 := by rw [e100]; rfl
  have k10 : zmclr w 100 10 = 0 := by rw [e100]; rfl
  have eN : mN (zmclr w) = v * h := by unfold mN; rw [k0, k1]
  have h64 : v * h ≤ 64 := by rw [← b2]; exact hB.2.2.2.2.2.1
  have z : ∀ (f : Int → Int) (x p : Int), 0 ≤ p → p < v * h → zfll f 64 x p = x := fun f x p p0 p1 => by unfold zfll; rw [if_pos ⟨p0, by omega⟩]
  have l7 : m' (t + 7) 0 = 0 := by rw [r7, zrw_at]
  have l9 : m' (t + 9) 0 = 0 := by rw [r9, zrw_at]
  have l3 : m' t 3 = 0 := by rw [rt]; rfl
  have l4 : m' t 4 = 0 := by rw [rt]; rfl
  refine ⟨⟨⟨hB, hNV, ?_⟩, ⟨?_, ?_, ?_⟩, ?_, ?_, ?_⟩, ⟨?_, ?_, ?_⟩, ⟨?_, ?_, ?_, ?_⟩, ?_, ?_, ?_, ?_⟩
  · intro i q i0 i1 q0 q1
    rw [bt i i0 i1, zbt_0]
    by_cases c : q < m' (t + 1) 2
    · have := bz q q0 q1
      unfold zthing
      rw [this.1, this.2.2]
      split
      · simp; omega
      · simp; omega
    · simp [c]
  · rw [k0, ← b0]; exact ⟨hB.1, hB.2.1⟩
  · rw [k1, ← b1]; exact ⟨hB.2.2.1, hB.2.2.2.1⟩
  · intro p p0 p1
    rw [eN] at p1
    rw [e1, e2, e3, z _ _ p p0 p1, z _ _ p p0 p1, z _ _ p p0 p1]
    omega
  · rw [k0, b0]
  · rw [k1, b1]
  · intro p p0 p1
    rw [eN] at p1
    have := bz p p0 (by omega)
    simp only [tn_1_1, tn_1_2, tn_1_3, tn_1_4, tn_1_5, tn_7_1, tn_9_1, tn_9_2, tn_9_3, tn_9_4, tn_9_5, tn_9_6, tn_9_7, tn_9_8, tn_9_9, tn_9_10, tn_9_11, tn_9_12, tn_9_13, tn_9_14, tn_9_15] at this
    rw [e1, e2, e3, z _ _ p p0 p1, z _ _ p p0 p1, z _ _ p p0 p1]
    exact this
  · rw [k8, l7]
  · rw [l7]
    exact ⟨by omega, fun k a b => by omega, fun j k a b c => by omega⟩
  · rw [l7]
    intro k i a b
    omega
  · rw [k10]; omega
  · rw [k10, l9]
  · rw [k10]; intro s a b; omega
  · intro p p0 p1
    rw [eN] at p1
    left
    rw [e4, z _ _ p p0 p1]
  · rw [l3]; omega
  · rw [l3, l4]; omega
  · rw [l3, k6]
  · rw [l4, k7]
end BEGIN
