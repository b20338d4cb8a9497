/-! taxes, and those who leave -/
theorem zmtx {w a : Int} (hw : -80000 ≤ w ∧ w ≤ 80000) (ha : 0 ≤ a ∧ a ≤ 100) : -8000000 ≤ w * a ∧ w * a ≤ 8000000 := by
  have := zmul_bd (A := 80000) (B := 100) hw ha
  omega
theorem ztax_bd {a w : Int} (hw : -80000 ≤ w ∧ w ≤ 80000) (ha : -1 ≤ a ∧ a ≤ 100) : 0 ≤ ztax a w ∧ ztax a w ≤ 80000 := by
  unfold ztax
  split
  next h =>
    have := zmtx hw ⟨by omega, ha.2⟩
    split <;> omega
  next => omega
def zlve (m : zM) (o s : Int) : zM := zpr (zpr m (o + 5) (zrw (m (o + 5)) s (-4))) (o + 6) (zrw (m (o + 6)) s 1)
theorem zlve_rows (m : zM) (o s : Int) : zlve m o s (o + 5) = zrw (m (o + 5)) s (-4) ∧ zlve m o s (o + 6) = zrw (m (o + 6)) s 1 ∧ ∀ a, a ≠ o + 5 → a ≠ o + 6 → zlve m o s a = m a := by
  unfold zlve
  refine ⟨?_, ?_, fun a h1 h2 => ?_⟩
  · rw [zpr_ne (by omega), zpr_at]
  · rw [zpr_at]
  · rw [zpr_ne h2, zpr_ne h1]
section GROW2
variable {t : Int} {R m : zM}
theorem tz_tt0 (hB : TK R t) {nc s x : Int} {l3 l4 l5 : zV} (hnc : m (t + 9) 0 = nc) (hS : nc ≤ 20) (hs : 0 ≤ s ∧ s < nc) (hh : m (t + 14) s = -4) : ev 124 4 [(2, t), (0, x), (0, s), l3, l4, l5] [] R m = ev 124 4 [(2, t), (0, x), (0, s + 1), (0, -4), l4, l5] [] R m := by
  have He := tz_splot (R := R) (m := m) (s := s) (TK_S hB) (by omega) (by omega)
  simp only [tn_1_1, tn_1_2, tn_1_3, tn_1_4, tn_1_5, tn_7_1, tn_9_1, tn_9_2, tn_9_3, tn_9_4, tn_9_5, tn_9_6, tn_9_7, tn_9_8, tn_9_9, tn_9_10, tn_9_11, tn_9_12, tn_9_13, tn_9_14, tn_9_15] at He
  obtain ⟨hTK0, hTK1, hTK2, hTK3, hTK4, hTK5, hTK6, hTK7, hTK8, hTK9, hTK10, hTK11, hTK12, hTK13, hTK14, hTK15, hTK16, hTK17, hTK18, hTK19, hTK20, hTK21, hTK22, hTK23, hTK24, hTK25, hTK26, hTK27, hTK28, hTK29, hTK30, hTK31, hTK32, hTK33, hTK34, hTK35, hTK36, hTK37, hTK38, hTK39, hTK40, hTK41, hTK42, hTK43, hTK44, hTK45, hTK46, hTK47, hTK48, hTK49, hTK50, hTK51, hTK52, hTK53, hTK54, hTK55, hTK56, hTK57, hTK58, hTK59, hTK60, hTK61, hTK62, hTK63, hTK64, hTK65, hTK66, hTK67, hTK68, hTK69, hTK70, hTK71, hTK72, hTK73, hTK74, hTK75, hTK76, hTK77, hTK78⟩ := hB
  rw [s124_4]
  simp only [s124_0, s124_1, s124_2, s124_3, s124_5, s124_6, s124_9, s124_12, s124_15, s124_16, s124_17, s124_20, s124_21, s124_24, s124_25, s124_28, s124_29, s124_32, s124_33, s124_34, s124_36, s124_39, s124_42, s124_43, s124_46, s124_47, s124_50, s124_52, s124_53, s124_56, s124_57, s124_58, s124_59, s124_61, s124_64, s124_65, s124_66, s124_69, s124_70, s124_72, s124_73, s124_76, s124_79, s124_81, s124_83, s124_86, s124_87, s124_88, s124_89, s124_92, s124_93, s124_94, s124_96, s124_97, s124_99, s124_102, s124_105, s124_106, s124_107, s124_110, s124_113, s124_114, zps_0, zps_1, zps_2, zps_3, zps_9, Option.bind_some, Option.bind_none, Int.reduceEq, Int.reduceNe, Int.reduceLT, Int.reduceLE, Int.reduceNeg, Int.reduceAdd, Int.reduceSub, Int.reduceMul, reduceIte, if_true, if_false, true_and, and_true, false_and, and_false, or_true, true_or, or_false, false_or, not_true_eq_false, not_false_eq_true, ite_not, z_b0, z_b1, z_b01, hTK0, hTK1, hTK2, hTK3, hTK4, hTK5, hTK6, hTK7, hTK8, hTK9, hTK10, hTK11, hTK12, hTK13, hTK14, hTK15, hTK16, hTK17, hTK18, hTK19, hTK20, hTK21, hTK22, hTK23, hTK24, hTK25, hTK26, hTK27, hTK28, hTK29, hTK30, hTK31, hTK32, hTK33, hTK34, hTK35, hTK36, hTK37, hTK38, hTK39, hTK40, hTK41, hTK42, hTK43, hTK44, hTK45, hTK46, hTK47, hTK48, hTK49, hTK50, hTK51, hTK52, hTK53, hTK54, hTK55, hTK56, hTK57, hTK58, hTK59, hTK60, hTK61, hTK62, hTK63, hTK64, hTK65, hTK66, hTK67, hTK68, hTK69, hTK70, hTK71, hTK72, hTK73, hTK74, hTK75, hTK76, hTK77, hTK78, Nat.reduceLeDiff, Nat.le_refl, hnc, if_neg (show ¬ nc ≤ s by omega), if_neg (show ¬ 20 ≤ s by omega), He, hh, zw_i (x := s + 1) (by omega) (by omega)]
theorem tz_tt1 (hB : TK R t) (hG : TG m t) {nc s x p : Int} {l3 l4 l5 : zV} (hnc : m (t + 9) 0 = nc) (hS : nc ≤ 20) (hs : 0 ≤ s ∧ s < nc) (hh : m (t + 14) s = p) (hp : 0 ≤ p ∧ p < m (t + 1) 2) (hx : 0 ≤ x ∧ x ≤ 100000000) : ev 124 4 [(2, t), (0, x), (0, s), l3, l4, l5] [] R m = ev 124 4 [(2, t), (0, x + ztax (znum (m (t + 8)) 2 (m (t + 10) s) (m t 3) (m (t + 7) 0).toNat).1 (zwor m t p (m (t + 10) s))), (0, s + 1), (0, p), (0, m (t + 10) s), (0, (znum (m (t + 8)) 2 (m (t + 10) s) (m t 3) (m (t + 7) 0).toNat).1)] [] R (zpr m (t + 27) (zrw (m (t + 27)) s (zwor m t p (m (t + 10) s)))) := by
  have h64 := hG.1.2.2.2.2.2.1
  have hn1 := hG.1.2.2.2.2.2.2.1
  have He := tz_splot (R := R) (m := m) (s := s) (TK_S hB) (by omega) (by omega)
  have Us := tz_suse (R := R) (m := m) (s := s) (TK_S hB) (by omega) (by omega)
  have Wo := tz_tworth (R := R) (m := m) (p := p) hB hG (m (t + 10) s) hp
  have Nm := fun f : Int → Int => tz_lnumber (R := R) (m := zpr m (t + 27) f) (TK_L hB) (by rw [zpr_ne (by omega)]; exact hG.2.2.2.1) 2 (m (t + 10) s) (m t 3)
  have hbd := znum_bd (a := 2) (u := m (t + 10) s) (y := m t 3) hG.2.2.2 (by omega)
  have hw := zworth_bd (n := m (t + 1) 2) (w := m (t + 1) 0) (y := m t 3) (G := m (t + 2)) (U := m (t + 4)) (p := p) (u := m (t + 10) s) ⟨by omega, h64⟩ hG.2.2.2
  have hw1 : -80000 ≤ zwor m t p (m (t + 10) s) ∧ zwor m t p (m (t + 10) s) ≤ 80000 := hw
  rw [show zworth (m (t + 1) 2) (m (t + 1) 0) (m (t + 7) 0) (m t 3) (m (t + 2)) (m (t + 4)) (m (t + 8)) p (m (t + 10) s) = zwor m t p (m (t + 10) s) from rfl] at Wo
  have e : ∀ f : Int → Int, zpr m (t + 27) f (t + 7) = m (t + 7) ∧ zpr m (t + 27) f (t + 8) = m (t + 8) ∧ zpr m (t + 27) f t = m t ∧ zpr m (t + 27) f (t + 27) = f := fun f => ⟨zpr_ne (by omega), zpr_ne (by omega), zpr_ne (by omega), zpr_at _ _ _⟩
  simp only [tn_1_1, tn_1_2, tn_1_3, tn_1_4, tn_1_5, tn_7_1, tn_9_1, tn_9_2, tn_9_3, tn_9_4, tn_9_5, tn_9_6, tn_9_7, tn_9_8, tn_9_9, tn_9_10, tn_9_11, tn_9_12, tn_9_13, tn_9_14, tn_9_15, (e _).1, (e _).2.1] at He Us Nm
  rw [hh] at He
  have h2 := hbd.2.2 rfl
  have h3 := hbd.1
  clear hbd hw
  unfold ztax
  generalize (znum (m (t + 8)) 2 (m (t + 10) s) (m t 3) (m (t + 7) 0).toNat).1 = a at *
  generalize zwor m t p (m (t + 10) s) = w at *
  have hp4 : ¬ p = -4 := by omega
  have s1 : zw (s + 1) = s + 1 := zw_i (by omega) (by omega)
  have c1 : ¬ nc ≤ s := by omega
  have c2 : ¬ 20 ≤ s := by omega
  have c3 : 0 ≤ s ∧ s < 20 := by omega
  have c4 : 0 < a → zw (w * a) = w * a ∧ zw (x + w * a / 100) = x + w * a / 100 := by
    intro h
    have := zmtx hw1 ⟨by omega, h2⟩
    exact ⟨zw_i (by omega) (by omega), zw_i (by omega) (by omega)⟩
  have c5 : zw (x + 0) = x := by rw [Int.add_zero]; exact zw_i (by omega) (by omega)
  clear hw1 hG
  obtain ⟨hTK0, hTK1, hTK2, hTK3, hTK4, hTK5, hTK6, hTK7, hTK8, hTK9, hTK10, hTK11, hTK12, hTK13, hTK14, hTK15, hTK16, hTK17, hTK18, hTK19, hTK20, hTK21, hTK22, hTK23, hTK24, hTK25, hTK26, hTK27, hTK28, hTK29, hTK30, hTK31, hTK32, hTK33, hTK34, hTK35, hTK36, hTK37, hTK38, hTK39, hTK40, hTK41, hTK42, hTK43, hTK44, hTK45, hTK46, hTK47, hTK48, hTK49, hTK50, hTK51, hTK52, hTK53, hTK54, hTK55, hTK56, hTK57, hTK58, hTK59, hTK60, hTK61, hTK62, hTK63, hTK64, hTK65, hTK66, hTK67, hTK68, hTK69, hTK70, hTK71, hTK72, hTK73, hTK74, hTK75, hTK76, hTK77, hTK78⟩ := hB
  rw [s124_4]
  simp only [s124_0, s124_1, s124_2, s124_3, s124_5, s124_6, s124_9, s124_12, s124_15, s124_16, s124_17, s124_20, s124_21, s124_24, s124_25, s124_28, s124_29, s124_32, s124_33, s124_34, s124_36, s124_39, s124_42, s124_43, s124_46, s124_47, s124_50, s124_52, s124_53, s124_56, s124_57, s124_58, s124_59, s124_61, s124_64, s124_65, s124_66, s124_69, s124_70, s124_72, s124_73, s124_76, s124_79, s124_81, s124_83, s124_86, s124_87, s124_88, s124_89, s124_92, s124_93, s124_94, s124_96, s124_97, s124_99, s124_102, s124_105, s124_106, s124_107, s124_110, s124_113, s124_114, zps_0, zps_1, zps_2, zps_3, zps_9, Option.bind_some, Option.bind_none, Int.reduceEq, Int.reduceNe, Int.reduceLT, Int.reduceLE, Int.reduceNeg, Int.reduceAdd, Int.reduceSub, Int.reduceMul, reduceIte, if_true, if_false, true_and, and_true, false_and, and_false, or_true, true_or, or_false, false_or, not_true_eq_false, not_false_eq_true, ite_not, z_b0, z_b1, z_b01, hTK0, hTK1, hTK2, hTK3, hTK4, hTK5, hTK6, hTK7, hTK8, hTK9, hTK10, hTK11, hTK12, hTK13, hTK14, hTK15, hTK16, hTK17, hTK18, hTK19, hTK20, hTK21, hTK22, hTK23, hTK24, hTK25, hTK26, hTK27, hTK28, hTK29, hTK30, hTK31, hTK32, hTK33, hTK34, hTK35, hTK36, hTK37, hTK38, hTK39, hTK40, hTK41, hTK42, hTK43, hTK44, hTK45, hTK46, hTK47, hTK48, hTK49, hTK50, hTK51, hTK52, hTK53, hTK54, hTK55, hTK56, hTK57, hTK58, hTK59, hTK60, hTK61, hTK62, hTK63, hTK64, hTK65, hTK66, hTK67, hTK68, hTK69, hTK70, hTK71, hTK72, hTK73, hTK74, hTK75, hTK76, hTK77, hTK78, Nat.reduceLeDiff, Nat.le_refl, hnc, c1, c2, c3, He, hp4, Us, Wo, zup_zpr, zpr_at, zpr_zpr, zrw_at, e, Nm, s1]
  by_cases h : 0 < a
  · rw [if_neg (show ¬ a ≤ 0 by clear hTK0; omega), if_pos h, (c4 h).1]
    by_cases h' : 0 < w * a / 100
    · rw [if_pos h', (c4 h).2]
    · rw [if_neg h', c5, Int.add_zero]
  · rw [if_pos (show a ≤ 0 by clear hTK0; omega), if_neg h, Int.add_zero]
theorem tz_tt2 (hB : TK R t) {nc x : Int} {l3 l4 l5 : zV} (hnc : m (t + 9) 0 = nc) : ev 124 4 [(2, t), (0, x), (0, nc), l3, l4, l5] [] R m = some ((0, x), R, m) := by
  obtain ⟨hTK0, hTK1, hTK2, hTK3, hTK4, hTK5, hTK6, hTK7, hTK8, hTK9, hTK10, hTK11, hTK12, hTK13, hTK14, hTK15, hTK16, hTK17, hTK18, hTK19, hTK20, hTK21, hTK22, hTK23, hTK24, hTK25, hTK26, hTK27, hTK28, hTK29, hTK30, hTK31, hTK32, hTK33, hTK34, hTK35, hTK36, hTK37, hTK38, hTK39, hTK40, hTK41, hTK42, hTK43, hTK44, hTK45, hTK46, hTK47, hTK48, hTK49, hTK50, hTK51, hTK52, hTK53, hTK54, hTK55, hTK56, hTK57, hTK58, hTK59, hTK60, hTK61, hTK62, hTK63, hTK64, hTK65, hTK66, hTK67, hTK68, hTK69, hTK70, hTK71, hTK72, hTK73, hTK74, hTK75, hTK76, hTK77, hTK78⟩ := hB
  rw [s124_4]
  simp only [s124_0, s124_1, s124_2, s124_3, s124_5, s124_6, s124_9, s124_12, s124_15, s124_16, s124_17, s124_20, s124_21, s124_24, s124_25, s124_28, s124_29, s124_32, s124_33, s124_34, s124_36, s124_39, s124_42, s124_43, s124_46, s124_47, s124_50, s124_52, s124_53, s124_56, s124_57, s124_58, s124_59, s124_61, s124_64, s124_65, s124_66, s124_69, s124_70, s124_72, s124_73, s124_76, s124_79, s124_81, s124_83, s124_86, s124_87, s124_88, s124_89, s124_92, s124_93, s124_94, s124_96, s124_97, s124_99, s124_102, s124_105, s124_106, s124_107, s124_110, s124_113, s124_114, zps_0, zps_1, zps_2, zps_3, zps_9, Option.bind_some, Option.bind_none, Int.reduceEq, Int.reduceNe, Int.reduceLT, Int.reduceLE, Int.reduceNeg, Int.reduceAdd, Int.reduceSub, Int.reduceMul, reduceIte, if_true, if_false, true_and, and_true, false_and, and_false, or_true, true_or, or_false, false_or, not_true_eq_false, not_false_eq_true, ite_not, z_b0, z_b1, z_b01, hTK0, hTK1, hTK2, hTK3, hTK4, hTK5, hTK6, hTK7, hTK8, hTK9, hTK10, hTK11, hTK12, hTK13, hTK14, hTK15, hTK16, hTK17, hTK18, hTK19, hTK20, hTK21, hTK22, hTK23, hTK24, hTK25, hTK26, hTK27, hTK28, hTK29, hTK30, hTK31, hTK32, hTK33, hTK34, hTK35, hTK36, hTK37, hTK38, hTK39, hTK40, hTK41, hTK42, hTK43, hTK44, hTK45, hTK46, hTK47, hTK48, hTK49, hTK50, hTK51, hTK52, hTK53, hTK54, hTK55, hTK56, hTK57, hTK58, hTK59, hTK60, hTK61, hTK62, hTK63, hTK64, hTK65, hTK66, hTK67, hTK68, hTK69, hTK70, hTK71, hTK72, hTK73, hTK74, hTK75, hTK76, hTK77, hTK78, hnc, if_pos (show nc ≤ nc by omega)]
theorem tz_takeTaxes (hB : TK R t) (hG : TG m t) {nc : Int} (hnc : m (t + 9) 0 = nc) (hS : 0 ≤ nc ∧ nc ≤ 20) (hP : ∀ s, 0 ≤ s → s < nc → m (t + 14) s = -4 ∨ (0 ≤ m (t + 14) s ∧ m (t + 14) s < m (t + 1) 2)) :
    ∃ f : Int → Int, ev 124 0 [(2, t), (9, 0), (9, 0), (9, 0), (9, 0), (9, 0)] [] R m = some ((0, zsum (fun s => if m (t + 14) s = -4 then 0 else ztax (znum (m (t + 8)) 2 (m (t + 10) s) (m t 3) (m (t + 7) 0).toNat).1 (zwor m t (m (t + 14) s) (m (t + 10) s))) nc.toNat), R, zpr m (t + 27) f) ∧ ∀ s, 0 ≤ s → s < nc → m (t + 14) s ≠ -4 → f s = zwor m t (m (t + 14) s) (m (t + 10) s) := by
  have h64 := hG.1.2.2.2.2.2.1
  have hn1 := hG.1.2.2.2.2.2.2.1
  have st : ev 124 0 [(2, t), (9, 0), (9, 0), (9, 0), (9, 0), (9, 0)] [] R m = ev 124 4 [(2, t), (0, 0), (0, 0), (9, 0), (9, 0), (9, 0)] [] R m := by simp only [s124_0, s124_1, s124_2, s124_3, s124_5, s124_6, s124_9, s124_12, s124_15, s124_16, s124_17, s124_20, s124_21, s124_24, s124_25, s124_28, s124_29, s124_32, s124_33, s124_34, s124_36, s124_39, s124_42, s124_43, s124_46, s124_47, s124_50, s124_52, s124_53, s124_56, s124_57, s124_58, s124_59, s124_61, s124_64, s124_65, s124_66, s124_69, s124_70, s124_72, s124_73, s124_76, s124_79, s124_81, s124_83, s124_86, s124_87, s124_88, s124_89, s124_92, s124_93, s124_94, s124_96, s124_97, s124_99, s124_102, s124_105, s124_106, s124_107, s124_110, s124_113, s124_114, zps_0, zps_1, zps_2, zps_3, zps_9, Option.bind_some, Option.bind_none, Int.reduceEq, Int.reduceNe, Int.reduceLT, Int.reduceLE, Int.reduceNeg, Int.reduceAdd, Int.reduceSub, Int.reduceMul, reduceIte, if_true, if_false, true_and, and_true, false_and, and_false, or_true, true_or, or_false, false_or, not_true_eq_false, not_false_eq_true, ite_not, z_b0, z_b1, z_b01]
  rw [st]
  have e : ∀ (f : Int → Int) a, a ≠ t + 27 → zpr m (t + 27) f a = m a := fun f a h => zpr_ne h
  have hGf : ∀ f : Int → Int, TG (zpr m (t + 27) f) t := fun f => TG_fr (fun a h1 h2 => e f a (by omega)) hG
  have hWf : ∀ (f : Int → Int) p u, zwor (zpr m (t + 27) f) t p u = zwor m t p u := by
    intro f p u
    unfold zwor
    rw [e f (t + 1) (by omega), e f (t + 2) (by omega), e f (t + 4) (by omega), e f (t + 7) (by omega), e f (t + 8) (by omega), e f t (by omega)]
  generalize hF : (fun s => if m (t + 14) s = -4 then 0 else ztax (znum (m (t + 8)) 2 (m (t + 10) s) (m t 3) (m (t + 7) 0).toNat).1 (zwor m t (m (t + 14) s) (m (t + 10) s))) = F
  have hF2 : ∀ s, F s = if m (t + 14) s = -4 then 0 else ztax (znum (m (t + 8)) 2 (m (t + 10) s) (m t 3) (m (t + 7) 0).toNat).1 (zwor m t (m (t + 14) s) (m (t + 10) s)) := fun s => by rw [← hF]
  have bF : ∀ s, 0 ≤ F s ∧ F s ≤ 80000 := by
    intro s
    rw [hF2]
    split
    · omega
    · have b1 := znum_bd (a := 2) (u := m (t + 10) s) (y := m t 3) hG.2.2.2 (by omega)
      exact ztax_bd (zworth_bd ⟨by omega, h64⟩ hG.2.2.2 _ _) ⟨b1.1, b1.2.2 rfl⟩
  have bS : ∀ k : Nat, k ≤ 20 → 0 ≤ zsum F k ∧ zsum F k ≤ 1600000 := by
    intro k hk
    have := zsum_bd (f := F) (n := k) (lo := 0) (hi := 80000) (fun j _ _ => bF j)
    omega
  refine zloop (fun r => ∃ f : Int → Int, r = some ((0, zsum F nc.toNat), R, zpr m (t + 27) f) ∧ ∀ s, 0 ≤ s → s < nc → m (t + 14) s ≠ -4 → f s = zwor m t (m (t + 14) s) (m (t + 10) s)) (fun s (a : (Int → Int) × Int × zV × zV × zV) => ev 124 4 [(2, t), (0, a.2.1), (0, s), a.2.2.1, a.2.2.2.1, a.2.2.2.2] [] R (zpr m (t + 27) a.1)) nc (fun k a => 0 ≤ k ∧ a.2.1 = zsum F k.toNat ∧ ∀ s, 0 ≤ s → s < k → m (t + 14) s ≠ -4 → a.1 s = zwor m t (m (t + 14) s) (m (t + 10) s)) ?_ ?_ 0 (m (t + 27), 0, (9, 0), (9, 0), (9, 0)) (by omega) ⟨by omega, rfl, fun s h1 h2 => by omega⟩ |> fun h => by rw [zpr_self] at h; exact h
  · intro s ⟨f, x, l3, l4, l5⟩ hs ⟨hs0, hx, hI⟩ ih
    dsimp only at hx hI ⊢
    have ih2 := fun a h => ih a ⟨by omega, h⟩
    rw [zsum_step _ hs0, ← hx] at ih2
    have bx := bS s.toNat (by omega)
    rw [← hx] at bx
    by_cases hq : m (t + 14) s = -4
    · rw [tz_tt0 hB (by rw [e f _ (by omega)]; exact hnc) hS.2 ⟨hs0, hs⟩ (by rw [e f _ (by omega)]; exact hq)]
      refine ih2 (f, x, (0, -4), l4, l5) ⟨?_, ?_⟩
      · rw [hF2, if_pos hq, Int.add_zero]
      · intro q h1 h2 h3
        by_cases e2 : q = s
        · subst e2; exact absurd hq h3
        · exact hI q h1 (by omega) h3
    · have hp : 0 ≤ m (t + 14) s ∧ m (t + 14) s < m (t + 1) 2 := by rcases hP s hs0 hs with h | h <;> omega
      rw [tz_tt1 hB (hGf f) (by rw [e f _ (by omega)]; exact hnc) hS.2 ⟨hs0, hs⟩ (by rw [e f _ (by omega)]) (by rw [e f _ (by omega)]; exact hp) (by omega)]
      rw [hWf, e f (t + 10) (by omega), e f (t + 8) (by omega), e f (t + 7) (by omega), e f t (by omega), zpr_at, zpr_zpr]
      have hFs := hF2 s
      rw [if_neg hq] at hFs
      rw [← hFs]
      refine ih2 (zrw f s (zwor m t (m (t + 14) s) (m (t + 10) s)), x + F s, (0, m (t + 14) s), (0, m (t + 10) s), (0, (znum (m (t + 8)) 2 (m (t + 10) s) (m t 3) (m (t + 7) 0).toNat).1)) ⟨rfl, ?_⟩
      intro q h1 h2 h3
      dsimp only
      by_cases e2 : q = s
      · subst e2; rw [zrw_at]
      · rw [zrw_ne e2]; exact hI q h1 (by omega) h3
  · intro ⟨f, x, l3, l4, l5⟩ ⟨hs0, hx, hI⟩
    dsimp only at hx hI ⊢
    rw [tz_tt2 hB (by rw [e f _ (by omega)]; exact hnc)]
    exact ⟨f, by rw [hx], hI⟩
theorem tz_sa0 (hB : TK R t) {nc s x : Int} {l3 l4 : zV} (hnc : m (t + 9) 0 = nc) (hS : nc ≤ 20) (hs : 0 ≤ s ∧ s < nc) (hh : m (t + 14) s = -4) : ev 125 4 [(2, t), (0, x), (0, s), l3, l4] [] R m = ev 125 4 [(2, t), (0, x), (0, s + 1), (0, -4), l4] [] R m := by
  have He := tz_splot (R := R) (m := m) (s := s) (TK_S hB) (by omega) (by omega)
  simp only [tn_1_1, tn_1_2, tn_1_3, tn_1_4, tn_1_5, tn_7_1, tn_9_1, tn_9_2, tn_9_3, tn_9_4, tn_9_5, tn_9_6, tn_9_7, tn_9_8, tn_9_9, tn_9_10, tn_9_11, tn_9_12, tn_9_13, tn_9_14, tn_9_15] at He
  have s1 : zw (s + 1) = s + 1 := zw_i (by omega) (by omega)
  have c1 : ¬ nc ≤ s := by omega
  have c2 : ¬ 20 ≤ s := by omega
  obtain ⟨hTK0, hTK1, hTK2, hTK3, hTK4, hTK5, hTK6, hTK7, hTK8, hTK9, hTK10, hTK11, hTK12, hTK13, hTK14, hTK15, hTK16, hTK17, hTK18, hTK19, hTK20, hTK21, hTK22, hTK23, hTK24, hTK25, hTK26, hTK27, hTK28, hTK29, hTK30, hTK31, hTK32, hTK33, hTK34, hTK35, hTK36, hTK37, hTK38, hTK39, hTK40, hTK41, hTK42, hTK43, hTK44, hTK45, hTK46, hTK47, hTK48, hTK49, hTK50, hTK51, hTK52, hTK53, hTK54, hTK55, hTK56, hTK57, hTK58, hTK59, hTK60, hTK61, hTK62, hTK63, hTK64, hTK65, hTK66, hTK67, hTK68, hTK69, hTK70, hTK71, hTK72, hTK73, hTK74, hTK75, hTK76, hTK77, hTK78⟩ := hB
  rw [s125_4]
  simp only [s125_0, s125_1, s125_2, s125_3, s125_5, s125_6, s125_9, s125_12, s125_15, s125_16, s125_17, s125_20, s125_21, s125_24, s125_25, s125_28, s125_29, s125_32, s125_33, s125_34, s125_36, s125_39, s125_42, s125_43, s125_46, s125_47, s125_48, s125_51, s125_52, s125_55, s125_56, s125_59, s125_62, s125_64, s125_66, s125_69, s125_70, s125_73, s125_74, s125_75, s125_77, s125_80, s125_83, s125_84, s125_87, s125_88, s125_91, s125_92, s125_95, s125_96, s125_97, s125_100, s125_101, s125_104, s125_107, s125_110, s125_111, zps_0, zps_1, zps_2, zps_3, zps_9, Option.bind_some, Option.bind_none, Int.reduceEq, Int.reduceNe, Int.reduceLT, Int.reduceLE, Int.reduceNeg, Int.reduceAdd, Int.reduceSub, Int.reduceMul, reduceIte, if_true, if_false, true_and, and_true, false_and, and_false, or_true, true_or, or_false, false_or, not_true_eq_false, not_false_eq_true, ite_not, z_b0, z_b1, z_b01, hTK0, hTK1, hTK2, hTK3, hTK4, hTK5, hTK6, hTK7, hTK8, hTK9, hTK10, hTK11, hTK12, hTK13, hTK14, hTK15, hTK16, hTK17, hTK18, hTK19, hTK20, hTK21, hTK22, hTK23, hTK24, hTK25, hTK26, hTK27, hTK28, hTK29, hTK30, hTK31, hTK32, hTK33, hTK34, hTK35, hTK36, hTK37, hTK38, hTK39, hTK40, hTK41, hTK42, hTK43, hTK44, hTK45, hTK46, hTK47, hTK48, hTK49, hTK50, hTK51, hTK52, hTK53, hTK54, hTK55, hTK56, hTK57, hTK58, hTK59, hTK60, hTK61, hTK62, hTK63, hTK64, hTK65, hTK66, hTK67, hTK68, hTK69, hTK70, hTK71, hTK72, hTK73, hTK74, hTK75, hTK76, hTK77, hTK78, Nat.reduceLeDiff, Nat.le_refl, hnc, c1, c2, He, hh, s1]
theorem tz_sa1 (hB : TK R t) (hL : LW (m (t + 7) 0) (m (t + 8))) {nc s x p : Int} {l3 l4 : zV} (hnc : m (t + 9) 0 = nc) (hS : nc ≤ 20) (hs : 0 ≤ s ∧ s < nc) (hh : m (t + 14) s = p) (hp : 0 ≤ p) (hl : ¬ (0 ≤ (znum (m (t + 8)) 4 (m (t + 10) s) (m t 3) (m (t + 7) 0).toNat).1 ∧ m (t + 27) s < (znum (m (t + 8)) 4 (m (t + 10) s) (m t 3) (m (t + 7) 0).toNat).1)) : ev 125 4 [(2, t), (0, x), (0, s), l3, l4] [] R m = ev 125 4 [(2, t), (0, x), (0, s + 1), (0, p), (0, (znum (m (t + 8)) 4 (m (t + 10) s) (m t 3) (m (t + 7) 0).toNat).1)] [] R m := by
  have He := tz_splot (R := R) (m := m) (s := s) (TK_S hB) (by omega) (by omega)
  have Us := tz_suse (R := R) (m := m) (s := s) (TK_S hB) (by omega) (by omega)
  have Nm := tz_lnumber (R := R) (m := m) (TK_L hB) hL.1 4 (m (t + 10) s) (m t 3)
  simp only [tn_1_1, tn_1_2, tn_1_3, tn_1_4, tn_1_5, tn_7_1, tn_9_1, tn_9_2, tn_9_3, tn_9_4, tn_9_5, tn_9_6, tn_9_7, tn_9_8, tn_9_9, tn_9_10, tn_9_11, tn_9_12, tn_9_13, tn_9_14, tn_9_15] at He Us Nm
  rw [hh] at He
  generalize (znum (m (t + 8)) 4 (m (t + 10) s) (m t 3) (m (t + 7) 0).toNat).1 = a at *
  have hp4 : ¬ p = -4 := by omega
  have s1 : zw (s + 1) = s + 1 := zw_i (by omega) (by omega)
  have c1 : ¬ nc ≤ s := by omega
  have c2 : ¬ 20 ≤ s := by omega
  have c3 : 0 ≤ s ∧ s < 20 := by omega
  have c4 : ∀ x y : Option zR, (if a < 0 then x else if m (t + 27) s < a then y else x) = x := by
    intro x y
    by_cases h : a < 0
    · rw [if_pos h]
    · rw [if_neg h, if_neg (by omega)]
  obtain ⟨hTK0, hTK1, hTK2, hTK3, hTK4, hTK5, hTK6, hTK7, hTK8, hTK9, hTK10, hTK11, hTK12, hTK13, hTK14, hTK15, hTK16, hTK17, hTK18, hTK19, hTK20, hTK21, hTK22, hTK23, hTK24, hTK25, hTK26, hTK27, hTK28, hTK29, hTK30, hTK31, hTK32, hTK33, hTK34, hTK35, hTK36, hTK37, hTK38, hTK39, hTK40, hTK41, hTK42, hTK43, hTK44, hTK45, hTK46, hTK47, hTK48, hTK49, hTK50, hTK51, hTK52, hTK53, hTK54, hTK55, hTK56, hTK57, hTK58, hTK59, hTK60, hTK61, hTK62, hTK63, hTK64, hTK65, hTK66, hTK67, hTK68, hTK69, hTK70, hTK71, hTK72, hTK73, hTK74, hTK75, hTK76, hTK77, hTK78⟩ := hB
  rw [s125_4]
  simp only [s125_0, s125_1, s125_2, s125_3, s125_5, s125_6, s125_9, s125_12, s125_15, s125_16, s125_17, s125_20, s125_21, s125_24, s125_25, s125_28, s125_29, s125_32, s125_33, s125_34, s125_36, s125_39, s125_42, s125_43, s125_46, s125_47, s125_48, s125_51, s125_52, s125_55, s125_56, s125_59, s125_62, s125_64, s125_66, s125_69, s125_70, s125_73, s125_74, s125_75, s125_77, s125_80, s125_83, s125_84, s125_87, s125_88, s125_91, s125_92, s125_95, s125_96, s125_97, s125_100, s125_101, s125_104, s125_107, s125_110, s125_111, zps_0, zps_1, zps_2, zps_3, zps_9, Option.bind_some, Option.bind_none, Int.reduceEq, Int.reduceNe, Int.reduceLT, Int.reduceLE, Int.reduceNeg, Int.reduceAdd, Int.reduceSub, Int.reduceMul, reduceIte, if_true, if_false, true_and, and_true, false_and, and_false, or_true, true_or, or_false, false_or, not_true_eq_false, not_false_eq_true, ite_not, z_b0, z_b1, z_b01, hTK0, hTK1, hTK2, hTK3, hTK4, hTK5, hTK6, hTK7, hTK8, hTK9, hTK10, hTK11, hTK12, hTK13, hTK14, hTK15, hTK16, hTK17, hTK18, hTK19, hTK20, hTK21, hTK22, hTK23, hTK24, hTK25, hTK26, hTK27, hTK28, hTK29, hTK30, hTK31, hTK32, hTK33, hTK34, hTK35, hTK36, hTK37, hTK38, hTK39, hTK40, hTK41, hTK42, hTK43, hTK44, hTK45, hTK46, hTK47, hTK48, hTK49, hTK50, hTK51, hTK52, hTK53, hTK54, hTK55, hTK56, hTK57, hTK58, hTK59, hTK60, hTK61, hTK62, hTK63, hTK64, hTK65, hTK66, hTK67, hTK68, hTK69, hTK70, hTK71, hTK72, hTK73, hTK74, hTK75, hTK76, hTK77, hTK78, Nat.reduceLeDiff, Nat.le_refl, hnc, c1, c2, c3, He, hp4, Us, Nm, s1, c4]
theorem tz_sa2 (hB : TK R t) (hV : BV m (t + 1)) (hT : TV m (t + 1)) (hL : LW (m (t + 7) 0) (m (t + 8))) {nc s x p : Int} {l3 l4 : zV} (hnc : m (t + 9) 0 = nc) (hS : nc ≤ 20) (hs : 0 ≤ s ∧ s < nc) (hx : 0 ≤ x ∧ x ≤ 100) (hh : m (t + 14) s = p) (hp : 0 ≤ p ∧ p < m (t + 1) 2) (hl : 0 ≤ (znum (m (t + 8)) 4 (m (t + 10) s) (m t 3) (m (t + 7) 0).toNat).1 ∧ m (t + 27) s < (znum (m (t + 8)) 4 (m (t + 10) s) (m t 3) (m (t + 7) 0).toNat).1) : ev 125 4 [(2, t), (0, x), (0, s), l3, l4] [] R m = ev 125 4 [(2, t), (0, x + 1), (0, s + 1), (0, p), (0, (znum (m (t + 8)) 4 (m (t + 10) s) (m t 3) (m (t + 7) 0).toNat).1)] [] R (zuput (zlve m (t + 9) s) (t + 1) p 0) := by
  have He := tz_splot (R := R) (m := m) (s := s) (TK_S hB) (by omega) (by omega)
  have Us := tz_suse (R := R) (m := m) (s := s) (TK_S hB) (by omega) (by omega)
  have Nm := tz_lnumber (R := R) (m := m) (TK_L hB) hL.1 4 (m (t + 10) s) (m t 3)
  have Lv := tz_sleave (R := R) (m := m) (TK_S hB) (by omega) s
  rw [if_pos (by omega), show zpr (zpr m (t + 9 + 5) (zrw (m (t + 9 + 5)) s (-4))) (t + 9 + 6) (zrw (m (t + 9 + 6)) s 1) = zlve m (t + 9) s from rfl] at Lv
  obtain ⟨r5, r6, rr⟩ := zlve_rows m (t + 9) s
  have hBT := BT_fr (m := m) (m' := zlve m (t + 9) s) (o := t + 1) (fun a h1 h2 => rr a (by omega) (by omega)) hV hT
  have PU := tz_putUse (R := R) (m := zlve m (t + 9) s) (p := p) (g := 0) (TK_B hB) hBT.1 (by rw [rr _ (by omega) (by omega)]; exact hp) (by omega)
  rw [show ∀ (m' : zM) (p g : Int), zpr (zpr m' (t + 1 + 3) (zrw (m' (t + 1 + 3)) p g)) (t + 1 + 4) (zth2 (zth1 (m' (t + 1 + 4)) p (m' (t + 1 + 3) p - 1)) p (g - 1)) = zuput m' (t + 1) p g from fun _ _ _ => rfl] at PU
  simp only [tn_1_1, tn_1_2, tn_1_3, tn_1_4, tn_1_5, tn_7_1, tn_9_1, tn_9_2, tn_9_3, tn_9_4, tn_9_5, tn_9_6, tn_9_7, tn_9_8, tn_9_9, tn_9_10, tn_9_11, tn_9_12, tn_9_13, tn_9_14, tn_9_15] at He Us Nm
  rw [hh] at He
  generalize zlve m (t + 9) s = M1 at *
  generalize zuput M1 (t + 1) p 0 = M2 at *
  generalize (znum (m (t + 8)) 4 (m (t + 10) s) (m t 3) (m (t + 7) 0).toNat).1 = a at *
  have hp4 : ¬ p = -4 := by omega
  have s1 : zw (s + 1) = s + 1 := zw_i (by omega) (by omega)
  have x1 : zw (x + 1) = x + 1 := zw_i (by omega) (by omega)
  have c1 : ¬ nc ≤ s := by omega
  have c2 : ¬ 20 ≤ s := by omega
  have c3 : 0 ≤ s ∧ s < 20 := by omega
  have c4 : ¬ a < 0 := by omega
  obtain ⟨-, c5⟩ := hl
  clear rr r5 r6 hBT hV hT hL
  obtain ⟨hTK0, hTK1, hTK2, hTK3, hTK4, hTK5, hTK6, hTK7, hTK8, hTK9, hTK10, hTK11, hTK12, hTK13, hTK14, hTK15, hTK16, hTK17, hTK18, hTK19, hTK20, hTK21, hTK22, hTK23, hTK24, hTK25, hTK26, hTK27, hTK28, hTK29, hTK30, hTK31, hTK32, hTK33, hTK34, hTK35, hTK36, hTK37, hTK38, hTK39, hTK40, hTK41, hTK42, hTK43, hTK44, hTK45, hTK46, hTK47, hTK48, hTK49, hTK50, hTK51, hTK52, hTK53, hTK54, hTK55, hTK56, hTK57, hTK58, hTK59, hTK60, hTK61, hTK62, hTK63, hTK64, hTK65, hTK66, hTK67, hTK68, hTK69, hTK70, hTK71, hTK72, hTK73, hTK74, hTK75, hTK76, hTK77, hTK78⟩ := hB
  rw [s125_4]
  simp only [s125_0, s125_1, s125_2, s125_3, s125_5, s125_6, s125_9, s125_12, s125_15, s125_16, s125_17, s125_20, s125_21, s125_24, s125_25, s125_28, s125_29, s125_32, s125_33, s125_34, s125_36, s125_39, s125_42, s125_43, s125_46, s125_47, s125_48, s125_51, s125_52, s125_55, s125_56, s125_59, s125_62, s125_64, s125_66, s125_69, s125_70, s125_73, s125_74, s125_75, s125_77, s125_80, s125_83, s125_84, s125_87, s125_88, s125_91, s125_92, s125_95, s125_96, s125_97, s125_100, s125_101, s125_104, s125_107, s125_110, s125_111, zps_0, zps_1, zps_2, zps_3, zps_9, Option.bind_some, Option.bind_none, Int.reduceEq, Int.reduceNe, Int.reduceLT, Int.reduceLE, Int.reduceNeg, Int.reduceAdd, Int.reduceSub, Int.reduceMul, reduceIte, if_true, if_false, true_and, and_true, false_and, and_false, or_true, true_or, or_false, false_or, not_true_eq_false, not_false_eq_true, ite_not, z_b0, z_b1, z_b01, hTK0, hTK1, hTK2, hTK3, hTK4, hTK5, hTK6, hTK7, hTK8, hTK9, hTK10, hTK11, hTK12, hTK13, hTK14, hTK15, hTK16, hTK17, hTK18, hTK19, hTK20, hTK21, hTK22, hTK23, hTK24, hTK25, hTK26, hTK27, hTK28, hTK29, hTK30, hTK31, hTK32, hTK33, hTK34, hTK35, hTK36, hTK37, hTK38, hTK39, hTK40, hTK41, hTK42, hTK43, hTK44, hTK45, hTK46, hTK47, hTK48, hTK49, hTK50, hTK51, hTK52, hTK53, hTK54, hTK55, hTK56, hTK57, hTK58, hTK59, hTK60, hTK61, hTK62, hTK63, hTK64, hTK65, hTK66, hTK67, hTK68, hTK69, hTK70, hTK71, hTK72, hTK73, hTK74, hTK75, hTK76, hTK77, hTK78, Nat.reduceLeDiff, Nat.le_refl, hnc, c1, c2, c3, He, hp4, Us, Nm, s1, x1, c4, c5, Lv, PU]
theorem tz_sa3 (hB : TK R t) {nc x : Int} {l3 l4 : zV} (hnc : m (t + 9) 0 = nc) : ev 125 4 [(2, t), (0, x), (0, nc), l3, l4] [] R m = some ((0, x), R, m) := by
  obtain ⟨hTK0, hTK1, hTK2, hTK3, hTK4, hTK5, hTK6, hTK7, hTK8, hTK9, hTK10, hTK11, hTK12, hTK13, hTK14, hTK15, hTK16, hTK17, hTK18, hTK19, hTK20, hTK21, hTK22, hTK23, hTK24, hTK25, hTK26, hTK27, hTK28, hTK29, hTK30, hTK31, hTK32, hTK33, hTK34, hTK35, hTK36, hTK37, hTK38, hTK39, hTK40, hTK41, hTK42, hTK43, hTK44, hTK45, hTK46, hTK47, hTK48, hTK49, hTK50, hTK51, hTK52, hTK53, hTK54, hTK55, hTK56, hTK57, hTK58, hTK59, hTK60, hTK61, hTK62, hTK63, hTK64, hTK65, hTK66, hTK67, hTK68, hTK69, hTK70, hTK71, hTK72, hTK73, hTK74, hTK75, hTK76, hTK77, hTK78⟩ := hB
  rw [s125_4]
  simp only [s125_0, s125_1, s125_2, s125_3, s125_5, s125_6, s125_9, s125_12, s125_15, s125_16, s125_17, s125_20, s125_21, s125_24, s125_25, s125_28, s125_29, s125_32, s125_33, s125_34, s125_36, s125_39, s125_42, s125_43, s125_46, s125_47, s125_48, s125_51, s125_52, s125_55, s125_56, s125_59, s125_62, s125_64, s125_66, s125_69, s125_70, s125_73, s125_74, s125_75, s125_77, s125_80, s125_83, s125_84, s125_87, s125_88, s125_91, s125_92, s125_95, s125_96, s125_97, s125_100, s125_101, s125_104, s125_107, s125_110, s125_111, zps_0, zps_1, zps_2, zps_3, zps_9, Option.bind_some, Option.bind_none, Int.reduceEq, Int.reduceNe, Int.reduceLT, Int.reduceLE, Int.reduceNeg, Int.reduceAdd, Int.reduceSub, Int.reduceMul, reduceIte, if_true, if_false, true_and, and_true, false_and, and_false, or_true, true_or, or_false, false_or, not_true_eq_false, not_false_eq_true, ite_not, z_b0, z_b1, z_b01, hTK0, hTK1, hTK2, hTK3, hTK4, hTK5, hTK6, hTK7, hTK8, hTK9, hTK10, hTK11, hTK12, hTK13, hTK14, hTK15, hTK16, hTK17, hTK18, hTK19, hTK20, hTK21, hTK22, hTK23, hTK24, hTK25, hTK26, hTK27, hTK28, hTK29, hTK30, hTK31, hTK32, hTK33, hTK34, hTK35, hTK36, hTK37, hTK38, hTK39, hTK40, hTK41, hTK42, hTK43, hTK44, hTK45, hTK46, hTK47, hTK48, hTK49, hTK50, hTK51, hTK52, hTK53, hTK54, hTK55, hTK56, hTK57, hTK58, hTK59, hTK60, hTK61, hTK62, hTK63, hTK64, hTK65, hTK66, hTK67, hTK68, hTK69, hTK70, hTK71, hTK72, hTK73, hTK74, hTK75, hTK76, hTK77, hTK78, hnc, if_pos (show nc ≤ nc by omega)]
end GROW2
