/-! bids settle: the class's -/
theorem zbp_congr {can can' : Int → Bool} {v v' : Int → Int} {n : Nat} (h : ∀ p : Int, 0 ≤ p → p < n → can p = can' p ∧ (can p = true → v p = v' p)) : zbp can v n = zbp can' v' n := by
  induction n with
  | zero => rfl
  | succ n ih =>
    have h1 := ih (fun p h1 h2 => h p h1 (by omega))
    have h2 := h n (by omega) (by omega)
    simp only [zbp]
    rw [h1, h2.1]
    by_cases hc : can' n = true
    · rw [h2.2 (h2.1.trans hc)]
    · rw [if_neg (fun z => hc z.1), if_neg (fun z => hc z.1)]
def SIn (m : zM) (o n nc y : Int) (wt : Int → Bool) (ca : Int → Int → Bool) (pu : Int → Int) (va : Int → Int → Int) : Prop := m o 0 = nc ∧ (0 ≤ nc ∧ nc ≤ 20) ∧ (0 ≤ n ∧ n ≤ 64) ∧ ∀ s, 0 ≤ s → s < nc → (1 ≤ m (o + 1) s ∧ m (o + 1) s ≤ 3) ∧ (1 ≤ m (o + 2) s ∧ m (o + 2) s ≤ 999) ∧ (-9 ≤ m (o + 3) s ∧ m (o + 3) s ≤ 9) ∧ wt s = zwai m o s y ∧ pu s = m (o + 2) s ∧ (wt s = true → ∀ p, 0 ≤ p → p < n → ca s p = zbt (m (o + 13) (m (o + 1) s)) p ∧ va s p = zval2 m o s p ∧ (-100000 ≤ m (o + 14) (64 * m (o + 1) s + p) ∧ m (o + 14) (64 * m (o + 1) s + p) ≤ 100000) ∧ (0 ≤ m (o + 15) p ∧ m (o + 15) p ≤ 9))
def CS (m : zM) (o nc : Int) (pu : Int → Int) (va : Int → Int → Int) (P : zP) : Prop := (∀ s, 0 ≤ s → s < nc → m (o + 9) s = P.1 s) ∧ (∀ s p, 0 ≤ s → s < nc → 0 ≤ p → p < 64 → zbt (m (o + 11) s) p = P.2.1 s p) ∧ (∀ p, 0 ≤ p → p < 64 → m (o + 12) p = P.2.2 p) ∧ (∀ s, 0 ≤ s → s < nc → 0 ≤ P.1 s → m (o + 10) s = zbid pu va s (P.1 s))
theorem SIn_fr {m m' : zM} {o n nc y : Int} {wt : Int → Bool} {ca : Int → Int → Bool} {pu : Int → Int} {va : Int → Int → Int} (h : zfr [o + 9, o + 10, o + 11, o + 12] m m') (hS : SIn m o n nc y wt ca pu va) : SIn m' o n nc y wt ca pu va := by
  have e : ∀ a, a < o + 9 ∨ o + 12 < a → m' a = m a := fun a ha => h a (by
    simp only [List.mem_cons, List.not_mem_nil, or_false, not_or]
    omega)
  unfold SIn zwai zval2 at *
  rw [e o (by omega), e (o + 1) (by omega), e (o + 2) (by omega), e (o + 3) (by omega), e (o + 4) (by omega), e (o + 5) (by omega), e (o + 6) (by omega), e (o + 13) (by omega), e (o + 14) (by omega), e (o + 15) (by omega)]
  exact hS
section SETTLE
variable {o : Int} {R m : zM} {n nc y : Int} {wt : Int → Bool} {ca : Int → Int → Bool} {pu : Int → Int} {va : Int → Int → Int} {P : zP}
theorem tz_sval (hB : SK R o) (hS : SIn m o n nc y wt ca pu va) {s p : Int} (hs : 0 ≤ s ∧ s < nc) (hw : wt s = true) (hp : 0 ≤ p ∧ p < n) : ev 101 0 [(2, o), (0, s), (0, p)] [] R m = some ((0, va s p), R, m) := by
  obtain ⟨h1, h2, h3, h4⟩ := hS
  have h5 := (h4 s hs.1 hs.2).2.2.2.2.2 hw p hp.1 hp.2
  rw [h5.2.1]
  subst h1
  exact tz_svalue hB ⟨h2, fun s q1 q2 => ⟨(h4 s q1 q2).1, (h4 s q1 q2).2.1, (h4 s q1 q2).2.2.1⟩⟩ hs ⟨hp.1, by omega⟩ (by omega) h5.2.2.2
theorem tz_sbest (hB : SK R o) (hS : SIn m o n nc y wt ca pu va) (hC : CS m o nc pu va P) {s : Int} (hs : 0 ≤ s ∧ s < nc) (hw : wt s = true) : ev 100 0 [(2, o), (0, s), (0, n), (9, 0), (9, 0), (9, 0), (9, 0), (9, 0), (9, 0)] [] R m = some ((0, zbst n ca va P s), R, m) := by
  have V := fun p hp => tz_sval (p := p) hB hS hs hw hp
  obtain ⟨h1, h2, h3, h4⟩ := hS
  have h5 := h4 s hs.1 hs.2
  have H := tz_shas (R := R) (m := m) hB (by omega) s
  have hs2 : 0 ≤ s ∧ s < m o 0 := by omega
  have hu := h5.1
  obtain ⟨hSK0, hSK1, hSK2, hSK3, hSK4, hSK5, hSK6, hSK7, hSK8, hSK9, hSK10, hSK11, hSK12, hSK13, hSK14, hSK15, hSK16, hSK17, hSK18, hSK19, hSK20, hSK21, hSK22, hSK23, hSK24, hSK25, hSK26, hSK27, hSK28, hSK29, hSK30, hSK31, hSK32, hSK33, hSK34, hSK35, hSK36, hSK37, hSK38, hSK39, hSK40, hSK41, hSK42, hSK43, hSK44, hSK45⟩ := hB
  simp only [s100_0, s100_1, s100_2, s100_5, s100_8, s100_9, s100_12, s100_13, s100_14, s100_15, s100_16, s100_19, s100_22, s100_24, s100_25, s100_26, s100_29, s100_30, s100_33, s100_34, s100_35, s100_36, s100_37, s100_40, s100_41, s100_42, s100_45, s100_46, s100_47, s100_48, s100_50, s100_52, s100_53, s100_55, s100_56, s100_60, s100_61, s100_64, s100_66, s100_68, s100_71, s100_72, s100_74, s100_75, s100_76, s100_77, s100_78, s100_79, s100_82, s100_85, s100_86, s100_87, s100_89, s100_92, s100_94, s100_96, s100_98, s100_101, s100_103, s100_105, s100_107, s100_109, s100_112, s100_115, s100_117, zps_0, zps_1, zps_2, zps_3, zps_9, Option.bind_some, Option.bind_none, Int.reduceEq, Int.reduceNe, Int.reduceLT, Int.reduceLE, Int.reduceNeg, Int.reduceAdd, Int.reduceSub, Int.reduceMul, reduceIte, if_true, if_false, true_and, and_true, false_and, and_false, or_true, true_or, or_false, false_or, not_true_eq_false, not_false_eq_true, ite_not, z_b0, z_b1, z_b01, hSK0, hSK1, hSK2, hSK3, hSK4, hSK5, hSK6, hSK7, hSK8, hSK9, hSK10, hSK11, hSK12, hSK13, hSK14, hSK15, hSK16, hSK17, hSK18, hSK19, hSK20, hSK21, hSK22, hSK23, hSK24, hSK25, hSK26, hSK27, hSK28, hSK29, hSK30, hSK31, hSK32, hSK33, hSK34, hSK35, hSK36, hSK37, hSK38, hSK39, hSK40, hSK41, hSK42, hSK43, hSK44, hSK45, H, hs2, tz_within, hu]
  simp (disch := omega) only [zps_0, zps_1, zps_2, zps_3, zps_9, Option.bind_some, Option.bind_none, Int.reduceEq, Int.reduceNe, Int.reduceLT, Int.reduceLE, Int.reduceNeg, Int.reduceAdd, Int.reduceSub, Int.reduceMul, reduceIte, if_true, if_false, true_and, and_true, false_and, and_false, or_true, true_or, or_false, false_or, not_true_eq_false, not_false_eq_true, ite_not, z_b0, z_b1, z_b01, if_neg, if_pos]
  unfold zbst
  have hcan : ∀ p, 0 ≤ p → p < n → zbt (z64 (· &&& ·) (m (o + 13) (m (o + 1) s)) (z64 (· ^^^ ·) (m (o + 11) s) (-1))) p = (ca s p && !P.2.1 s p) := by
    intro p q1 q2
    rw [zbt_and, zbt_xor, zbt_m1 ⟨q1, by omega⟩, hC.2.1 s p hs.1 hs.2 q1 (by omega), (h5.2.2.2.2.2 hw p q1 q2).1]
    cases P.2.1 s p <;> simp
  generalize z64 (· &&& ·) (m (o + 13) (m (o + 1) s)) (z64 (· ^^^ ·) (m (o + 11) s) (-1)) = asks at hcan ⊢
  refine zloop (fun r => r = some ((0, (zbp (fun p => ca s p && !P.2.1 s p) (va s) n.toNat).1), R, m)) (fun p (a : Int × Int × zV) => ev 100 58 [(2, o), (0, s), (0, n), (1, asks), (8, 0), (0, a.1), (0, a.2.1), (0, p), a.2.2] [] R m) n (fun p a => 0 ≤ p ∧ (a.1, a.2.1) = zbp (fun p => ca s p && !P.2.1 s p) (va s) p.toNat) ?_ ?_ 0 (-4, 0, (9, 0)) (by omega) ⟨by omega, rfl⟩
  · intro p ⟨b, g, l8⟩ hp ⟨h0, hI⟩ ih
    rw [s100_58]
    simp (disch := omega) only [s100_0, s100_1, s100_2, s100_5, s100_8, s100_9, s100_12, s100_13, s100_14, s100_15, s100_16, s100_19, s100_22, s100_24, s100_25, s100_26, s100_29, s100_30, s100_33, s100_34, s100_35, s100_36, s100_37, s100_40, s100_41, s100_42, s100_45, s100_46, s100_47, s100_48, s100_50, s100_52, s100_53, s100_55, s100_56, s100_60, s100_61, s100_64, s100_66, s100_68, s100_71, s100_72, s100_74, s100_75, s100_76, s100_77, s100_78, s100_79, s100_82, s100_85, s100_86, s100_87, s100_89, s100_92, s100_94, s100_96, s100_98, s100_101, s100_103, s100_105, s100_107, s100_109, s100_112, s100_115, s100_117, zps_0, zps_1, zps_2, zps_3, zps_9, Option.bind_some, Option.bind_none, Int.reduceEq, Int.reduceNe, Int.reduceLT, Int.reduceLE, Int.reduceNeg, Int.reduceAdd, Int.reduceSub, Int.reduceMul, reduceIte, if_true, if_false, true_and, and_true, false_and, and_false, or_true, true_or, or_false, false_or, not_true_eq_false, not_false_eq_true, ite_not, z_b0, z_b1, z_b01, hSK0, hSK1, hSK2, hSK3, hSK4, hSK5, hSK6, hSK7, hSK8, hSK9, hSK10, hSK11, hSK12, hSK13, hSK14, hSK15, hSK16, hSK17, hSK18, hSK19, hSK20, hSK21, hSK22, hSK23, hSK24, hSK25, hSK26, hSK27, hSK28, hSK29, hSK30, hSK31, hSK32, hSK33, hSK34, hSK35, hSK36, hSK37, hSK38, hSK39, hSK40, hSK41, hSK42, hSK43, hSK44, hSK45, if_neg (show ¬ n ≤ p by omega), if_neg (show ¬ 64 ≤ p by omega), z_ask ⟨h0, show p < 64 by omega⟩, hcan p h0 hp, V p ⟨h0, hp⟩, zw_i]
    have ih2 := fun a h => ih a ⟨by omega, h⟩
    have e : (p + 1).toNat = p.toNat + 1 := by omega
    have e2 : ((p.toNat : Nat) : Int) = p := by omega
    rw [e] at ih2
    dsimp only at hI
    simp only [zbp, e2, ← hI] at ih2
    by_cases hc : (ca s p && !P.2.1 s p) = true
    · simp only [hc, true_and] at ih2
      simp only [hc, zps_0, zps_1, zps_2, zps_3, zps_9, Option.bind_some, Option.bind_none, Int.reduceEq, Int.reduceNe, Int.reduceLT, Int.reduceLE, Int.reduceNeg, Int.reduceAdd, Int.reduceSub, Int.reduceMul, reduceIte, if_true, if_false, true_and, and_true, false_and, and_false, or_true, true_or, or_false, false_or, not_true_eq_false, not_false_eq_true, ite_not, z_b0, z_b1, z_b01]
      by_cases hg : g < va s p
      · rw [if_neg (by omega)]
        exact ih2 (p, va s p, (0, va s p)) (by rw [if_pos hg])
      · rw [if_pos (by omega)]
        exact ih2 (b, g, (0, va s p)) (by rw [if_neg hg])
    · simp only [hc] at ih2
      rw [Bool.not_eq_true] at hc
      simp only [hc, zps_0, zps_1, zps_2, zps_3, zps_9, Option.bind_some, Option.bind_none, Int.reduceEq, Int.reduceNe, Int.reduceLT, Int.reduceLE, Int.reduceNeg, Int.reduceAdd, Int.reduceSub, Int.reduceMul, reduceIte, if_true, if_false, true_and, and_true, false_and, and_false, or_true, true_or, or_false, false_or, not_true_eq_false, not_false_eq_true, ite_not, z_b0, z_b1, z_b01, Bool.false_eq_true]
      exact ih2 (b, g, l8) (by simp)
  · intro ⟨b, g, l8⟩ ⟨h0, hI⟩
    rw [s100_58]
    simp only [s100_0, s100_1, s100_2, s100_5, s100_8, s100_9, s100_12, s100_13, s100_14, s100_15, s100_16, s100_19, s100_22, s100_24, s100_25, s100_26, s100_29, s100_30, s100_33, s100_34, s100_35, s100_36, s100_37, s100_40, s100_41, s100_42, s100_45, s100_46, s100_47, s100_48, s100_50, s100_52, s100_53, s100_55, s100_56, s100_60, s100_61, s100_64, s100_66, s100_68, s100_71, s100_72, s100_74, s100_75, s100_76, s100_77, s100_78, s100_79, s100_82, s100_85, s100_86, s100_87, s100_89, s100_92, s100_94, s100_96, s100_98, s100_101, s100_103, s100_105, s100_107, s100_109, s100_112, s100_115, s100_117, zps_0, zps_1, zps_2, zps_3, zps_9, Option.bind_some, Option.bind_none, Int.reduceEq, Int.reduceNe, Int.reduceLT, Int.reduceLE, Int.reduceNeg, Int.reduceAdd, Int.reduceSub, Int.reduceMul, reduceIte, if_true, if_false, true_and, and_true, false_and, and_false, or_true, true_or, or_false, false_or, not_true_eq_false, not_false_eq_true, ite_not, z_b0, z_b1, z_b01, hSK0, hSK1, hSK2, hSK3, hSK4, hSK5, hSK6, hSK7, hSK8, hSK9, hSK10, hSK11, hSK12, hSK13, hSK14, hSK15, hSK16, hSK17, hSK18, hSK19, hSK20, hSK21, hSK22, hSK23, hSK24, hSK25, hSK26, hSK27, hSK28, hSK29, hSK30, hSK31, hSK32, hSK33, hSK34, hSK35, hSK36, hSK37, hSK38, hSK39, hSK40, hSK41, hSK42, hSK43, hSK44, hSK45, if_pos (show n ≤ n by omega)]
    rw [← hI]
theorem zmem4 {o a : Int} (h : a ∉ [o + 9, o + 10, o + 11, o + 12]) : a ≠ o + 9 ∧ a ≠ o + 10 ∧ a ≠ o + 11 ∧ a ≠ o + 12 := by
  simp only [List.mem_cons, List.not_mem_nil, or_false, not_or] at h
  exact h
theorem tz_sask (hB : SK R o) (hS : SIn m o n nc y wt ca pu va) (hC : CS m o nc pu va P) (hP : zPI n nc P) {s : Int} (hs : 0 ≤ s ∧ s < nc) (hw : wt s = true) (hb : P.1 s = -4) : ∃ m' : zM, ev 99 0 [(2, o), (0, s), (0, n), (9, 0), (9, 0)] [] R m = some ((0, if 0 ≤ zbst n ca va P s then 1 else 0), R, m') ∧ zfr [o + 9, o + 10, o + 11, o + 12] m m' ∧ CS m' o nc pu va (if 0 ≤ zbst n ca va P s then zst1 pu va P s (zbst n ca va P s) else P) := by
  have B := tz_sbest (m := m) (P := P) hB hS hC hs hw
  have V := fun p hp => tz_sval (p := p) (m := m) hB hS hs hw hp
  have hB0 := hB
  have H := fun m' hm q => tz_shas (m := m') (R := R) hB hm q
  obtain ⟨h1, h2, h3, h4⟩ := hS
  have hpu := (h4 s hs.1 hs.2).2.2.2.2.1
  have hbb := zbst_ok (n := n) (ca := ca) (va := va) (P := P) (s := s)
  obtain ⟨hSK0, hSK1, hSK2, hSK3, hSK4, hSK5, hSK6, hSK7, hSK8, hSK9, hSK10, hSK11, hSK12, hSK13, hSK14, hSK15, hSK16, hSK17, hSK18, hSK19, hSK20, hSK21, hSK22, hSK23, hSK24, hSK25, hSK26, hSK27, hSK28, hSK29, hSK30, hSK31, hSK32, hSK33, hSK34, hSK35, hSK36, hSK37, hSK38, hSK39, hSK40, hSK41, hSK42, hSK43, hSK44, hSK45⟩ := hB
  have H0 := H m (by omega)
  simp only [s99_0, s99_1, s99_2, s99_3, s99_6, s99_7, s99_8, s99_9, s99_12, s99_15, s99_16, s99_19, s99_20, s99_22, s99_25, s99_26, s99_27, s99_28, s99_31, s99_32, s99_33, s99_34, s99_35, s99_38, s99_39, s99_42, s99_43, s99_44, s99_47, s99_48, s99_49, s99_52, s99_53, s99_54, s99_56, s99_57, s99_59, s99_62, s99_65, s99_66, s99_67, s99_69, s99_72, s99_75, s99_76, s99_79, s99_80, s99_81, s99_82, s99_83, s99_86, s99_87, s99_88, s99_89, s99_90, s99_91, s99_93, s99_96, s99_99, s99_100, s99_103, s99_105, s99_106, s99_107, s99_108, s99_111, s99_112, s99_113, s99_114, s99_117, s99_119, s99_121, s99_122, s99_123, s99_126, s99_127, s99_128, s99_129, s99_130, s99_133, s99_134, s99_135, s99_136, s99_137, zps_0, zps_1, zps_2, zps_3, zps_9, Option.bind_some, Option.bind_none, Int.reduceEq, Int.reduceNe, Int.reduceLT, Int.reduceLE, Int.reduceNeg, Int.reduceAdd, Int.reduceSub, Int.reduceMul, reduceIte, if_true, if_false, true_and, and_true, false_and, and_false, or_true, true_or, or_false, false_or, not_true_eq_false, not_false_eq_true, ite_not, z_b0, z_b1, z_b01, hSK0, hSK1, hSK2, hSK3, hSK4, hSK5, hSK6, hSK7, hSK8, hSK9, hSK10, hSK11, hSK12, hSK13, hSK14, hSK15, hSK16, hSK17, hSK18, hSK19, hSK20, hSK21, hSK22, hSK23, hSK24, hSK25, hSK26, hSK27, hSK28, hSK29, hSK30, hSK31, hSK32, hSK33, hSK34, hSK35, hSK36, hSK37, hSK38, hSK39, hSK40, hSK41, hSK42, hSK43, hSK44, hSK45, B, H0, h1, hs]
  by_cases hq : 0 ≤ zbst n ca va P s
  · have hbo := hbb hq
    generalize zbst n ca va P s = p at *
    obtain ⟨hC1, hC2, hC3, hC4⟩ := hC
    have hq2 := hP.2 p
    have hm1 : ∀ f : Int → Int, zpr m (o + 10) f o 0 = nc := fun f => by rw [zpr_ne (by omega)]; exact h1
    have H1 := fun f => H (zpr m (o + 10) f) (by rw [hm1]; omega)
    simp only [hm1] at H1
    have O := fun (f : Int → Int) q (hq : 0 ≤ q ∧ q < nc) => tz_soutbids (R := R) (m := zpr m (o + 10) f) (s := s) (q := q) hB0 (by rw [hm1]; omega) (by rw [hm1]; exact hs) (by rw [hm1]; exact hq)
    simp only [if_pos hq]
    simp (disch := omega) only [if_neg, if_pos, V p ⟨hq, hbo.1⟩, zup_zpr, zpr_at, zpr_zpr, zrw_at, s99_0, s99_1, s99_2, s99_3, s99_6, s99_7, s99_8, s99_9, s99_12, s99_15, s99_16, s99_19, s99_20, s99_22, s99_25, s99_26, s99_27, s99_28, s99_31, s99_32, s99_33, s99_34, s99_35, s99_38, s99_39, s99_42, s99_43, s99_44, s99_47, s99_48, s99_49, s99_52, s99_53, s99_54, s99_56, s99_57, s99_59, s99_62, s99_65, s99_66, s99_67, s99_69, s99_72, s99_75, s99_76, s99_79, s99_80, s99_81, s99_82, s99_83, s99_86, s99_87, s99_88, s99_89, s99_90, s99_91, s99_93, s99_96, s99_99, s99_100, s99_103, s99_105, s99_106, s99_107, s99_108, s99_111, s99_112, s99_113, s99_114, s99_117, s99_119, s99_121, s99_122, s99_123, s99_126, s99_127, s99_128, s99_129, s99_130, s99_133, s99_134, s99_135, s99_136, s99_137, zps_0, zps_1, zps_2, zps_3, zps_9, Option.bind_some, Option.bind_none, Int.reduceEq, Int.reduceNe, Int.reduceLT, Int.reduceLE, Int.reduceNeg, Int.reduceAdd, Int.reduceSub, Int.reduceMul, reduceIte, if_true, if_false, true_and, and_true, false_and, and_false, or_true, true_or, or_false, false_or, not_true_eq_false, not_false_eq_true, ite_not, z_b0, z_b1, z_b01, hSK0, hSK1, hSK2, hSK3, hSK4, hSK5, hSK6, hSK7, hSK8, hSK9, hSK10, hSK11, hSK12, hSK13, hSK14, hSK15, hSK16, hSK17, hSK18, hSK19, hSK20, hSK21, hSK22, hSK23, hSK24, hSK25, hSK26, hSK27, hSK28, hSK29, hSK30, hSK31, hSK32, hSK33, hSK34, hSK35, hSK36, hSK37, hSK38, hSK39, hSK40, hSK41, hSK42, hSK43, hSK44, hSK45, zpr_ne]
    simp (disch := omega) only [if_neg, if_pos, V p ⟨hq, hbo.1⟩, zup_zpr, zpr_at, zpr_zpr, zrw_at, s99_0, s99_1, s99_2, s99_3, s99_6, s99_7, s99_8, s99_9, s99_12, s99_15, s99_16, s99_19, s99_20, s99_22, s99_25, s99_26, s99_27, s99_28, s99_31, s99_32, s99_33, s99_34, s99_35, s99_38, s99_39, s99_42, s99_43, s99_44, s99_47, s99_48, s99_49, s99_52, s99_53, s99_54, s99_56, s99_57, s99_59, s99_62, s99_65, s99_66, s99_67, s99_69, s99_72, s99_75, s99_76, s99_79, s99_80, s99_81, s99_82, s99_83, s99_86, s99_87, s99_88, s99_89, s99_90, s99_91, s99_93, s99_96, s99_99, s99_100, s99_103, s99_105, s99_106, s99_107, s99_108, s99_111, s99_112, s99_113, s99_114, s99_117, s99_119, s99_121, s99_122, s99_123, s99_126, s99_127, s99_128, s99_129, s99_130, s99_133, s99_134, s99_135, s99_136, s99_137, zps_0, zps_1, zps_2, zps_3, zps_9, Option.bind_some, Option.bind_none, Int.reduceEq, Int.reduceNe, Int.reduceLT, Int.reduceLE, Int.reduceNeg, Int.reduceAdd, Int.reduceSub, Int.reduceMul, reduceIte, if_true, if_false, true_and, and_true, false_and, and_false, or_true, true_or, or_false, false_or, not_true_eq_false, not_false_eq_true, ite_not, z_b0, z_b1, z_b01, hSK0, hSK1, hSK2, hSK3, hSK4, hSK5, hSK6, hSK7, hSK8, hSK9, hSK10, hSK11, hSK12, hSK13, hSK14, hSK15, hSK16, hSK17, hSK18, hSK19, hSK20, hSK21, hSK22, hSK23, hSK24, hSK25, hSK26, hSK27, hSK28, hSK29, hSK30, hSK31, hSK32, hSK33, hSK34, hSK35, hSK36, hSK37, hSK38, hSK39, hSK40, hSK41, hSK42, hSK43, hSK44, hSK45, zpr_ne, H1, hC3, tz_bit]
    rw [← hpu]
    have eb : (if pu s < va s p then pu s else va s p) = zbid pu va s p := rfl
    simp only [eb]
    have fr : ∀ (f g h k : Int → Int), zfr [o + 9, o + 10, o + 11, o + 12] m (zpr (zpr (zpr (zpr m (o + 10) f) (o + 11) g) (o + 9) h) (o + 12) k) := by
      intro f g h k a ha
      obtain ⟨a1, a2, a3, a4⟩ := zmem4 ha
      rw [zpr_ne a4, zpr_ne a1, zpr_ne a3, zpr_ne a2]
    by_cases ho : 0 ≤ P.2.2 p ∧ P.2.2 p < nc
    · have hho : P.1 (P.2.2 p) = p := by rcases hq2 with h | ⟨-, -, -, -, h⟩ <;> omega
      have hne : P.2.2 p ≠ s := fun e => by rw [e, hb] at hho; omega
      have b1 : zrw (m (o + 10)) s (zbid pu va s p) (P.2.2 p) = zbid pu va (P.2.2 p) p := by rw [zrw_ne hne, hC4 _ ho.1 ho.2 (by rw [hho]; exact hq), hho]
      rw [if_pos ho, O _ (P.2.2 p) ho]
      simp only [zpr_at, b1, zrw_at, Option.bind_some, zps_0]
      by_cases hwn : zbid pu va (P.2.2 p) p < zbid pu va s p ∨ (zbid pu va s p = zbid pu va (P.2.2 p) p ∧ s < P.2.2 p)
      · have hz : zwin pu va P s p = true := by
          unfold zwin
          rw [decide_eq_true_eq]
          exact Or.inr hwn
        rw [if_pos hwn]
        simp (disch := omega) only [if_neg, if_pos, zup_zpr, zpr_at, zpr_zpr, zrw_at, s99_0, s99_1, s99_2, s99_3, s99_6, s99_7, s99_8, s99_9, s99_12, s99_15, s99_16, s99_19, s99_20, s99_22, s99_25, s99_26, s99_27, s99_28, s99_31, s99_32, s99_33, s99_34, s99_35, s99_38, s99_39, s99_42, s99_43, s99_44, s99_47, s99_48, s99_49, s99_52, s99_53, s99_54, s99_56, s99_57, s99_59, s99_62, s99_65, s99_66, s99_67, s99_69, s99_72, s99_75, s99_76, s99_79, s99_80, s99_81, s99_82, s99_83, s99_86, s99_87, s99_88, s99_89, s99_90, s99_91, s99_93, s99_96, s99_99, s99_100, s99_103, s99_105, s99_106, s99_107, s99_108, s99_111, s99_112, s99_113, s99_114, s99_117, s99_119, s99_121, s99_122, s99_123, s99_126, s99_127, s99_128, s99_129, s99_130, s99_133, s99_134, s99_135, s99_136, s99_137, zps_0, zps_1, zps_2, zps_3, zps_9, Option.bind_some, Option.bind_none, Int.reduceEq, Int.reduceNe, Int.reduceLT, Int.reduceLE, Int.reduceNeg, Int.reduceAdd, Int.reduceSub, Int.reduceMul, reduceIte, if_true, if_false, true_and, and_true, false_and, and_false, or_true, true_or, or_false, false_or, not_true_eq_false, not_false_eq_true, ite_not, z_b0, z_b1, z_b01, hSK0, hSK1, hSK2, hSK3, hSK4, hSK5, hSK6, hSK7, hSK8, hSK9, hSK10, hSK11, hSK12, hSK13, hSK14, hSK15, hSK16, hSK17, hSK18, hSK19, hSK20, hSK21, hSK22, hSK23, hSK24, hSK25, hSK26, hSK27, hSK28, hSK29, hSK30, hSK31, hSK32, hSK33, hSK34, hSK35, hSK36, hSK37, hSK38, hSK39, hSK40, hSK41, hSK42, hSK43, hSK44, hSK45, zpr_ne, H1, ho, tz_bit]
        refine ⟨_, rfl, ?_, ?_⟩
        · intro a ha
          obtain ⟨a1, a2, a3, a4⟩ := zmem4 ha
          simp only [ne_eq, a1, a2, a3, a4, not_false_eq_true, zpr_ne]
        · unfold zst1
          rw [if_pos hz]
          refine ⟨fun q q0 q1 => ?_, fun q r q0 q1 r0 r1 => ?_, fun r r0 r1 => ?_, fun q q0 q1 q2 => ?_⟩
          · simp (disch := omega) only [zpr_ne, zpr_at]
            rw [zrw_if, zrw_if, hC1 q q0 q1]
          · simp (disch := omega) only [zpr_ne, zpr_at]
            rw [zrw_if]
            by_cases e : q = P.2.2 p
            · rw [if_pos e, e, show z64 (fun x1 x2 => x1 ||| x2) (m (o + 11) (P.2.2 p)) (zbit p) = zset (m (o + 11) (P.2.2 p)) p from rfl, zbt_set ⟨hq, by omega⟩ ⟨r0, r1⟩, hC2 _ r ho.1 ho.2 r0 r1]
              simp
            · rw [if_neg e, hC2 q r q0 q1 r0 r1]
              simp [e]
          · simp (disch := omega) only [zpr_ne, zpr_at]
            rw [zrw_if, hC3 r r0 r1]
          · simp (disch := omega) only [zpr_ne, zpr_at]
            dsimp only at q2 ⊢
            by_cases e1 : q = s
            · subst e1; rw [zrw_at, if_pos rfl]
            · rw [if_neg e1] at q2 ⊢
              rw [zrw_ne e1]
              by_cases e2 : q = P.2.2 p
              · rw [if_pos e2] at q2; omega
              · rw [if_neg e2] at q2 ⊢
                exact hC4 q q0 q1 q2
      · have hz : ¬ zwin pu va P s p = true := by
          unfold zwin
          rw [decide_eq_true_eq]
          rintro (h | h)
          · omega
          · exact hwn h
        rw [if_neg hwn]
        simp (disch := omega) only [if_neg, if_pos, zup_zpr, zpr_at, zpr_zpr, zrw_at, s99_0, s99_1, s99_2, s99_3, s99_6, s99_7, s99_8, s99_9, s99_12, s99_15, s99_16, s99_19, s99_20, s99_22, s99_25, s99_26, s99_27, s99_28, s99_31, s99_32, s99_33, s99_34, s99_35, s99_38, s99_39, s99_42, s99_43, s99_44, s99_47, s99_48, s99_49, s99_52, s99_53, s99_54, s99_56, s99_57, s99_59, s99_62, s99_65, s99_66, s99_67, s99_69, s99_72, s99_75, s99_76, s99_79, s99_80, s99_81, s99_82, s99_83, s99_86, s99_87, s99_88, s99_89, s99_90, s99_91, s99_93, s99_96, s99_99, s99_100, s99_103, s99_105, s99_106, s99_107, s99_108, s99_111, s99_112, s99_113, s99_114, s99_117, s99_119, s99_121, s99_122, s99_123, s99_126, s99_127, s99_128, s99_129, s99_130, s99_133, s99_134, s99_135, s99_136, s99_137, zps_0, zps_1, zps_2, zps_3, zps_9, Option.bind_some, Option.bind_none, Int.reduceEq, Int.reduceNe, Int.reduceLT, Int.reduceLE, Int.reduceNeg, Int.reduceAdd, Int.reduceSub, Int.reduceMul, reduceIte, if_true, if_false, true_and, and_true, false_and, and_false, or_true, true_or, or_false, false_or, not_true_eq_false, not_false_eq_true, ite_not, z_b0, z_b1, z_b01, hSK0, hSK1, hSK2, hSK3, hSK4, hSK5, hSK6, hSK7, hSK8, hSK9, hSK10, hSK11, hSK12, hSK13, hSK14, hSK15, hSK16, hSK17, hSK18, hSK19, hSK20, hSK21, hSK22, hSK23, hSK24, hSK25, hSK26, hSK27, hSK28, hSK29, hSK30, hSK31, hSK32, hSK33, hSK34, hSK35, hSK36, hSK37, hSK38, hSK39, hSK40, hSK41, hSK42, hSK43, hSK44, hSK45, zpr_ne, H1, ho, tz_bit]
        refine ⟨_, rfl, ?_, ?_⟩
        · intro a ha
          obtain ⟨a1, a2, a3, a4⟩ := zmem4 ha
          simp only [ne_eq, a1, a2, a3, a4, not_false_eq_true, zpr_ne]
        · unfold zst1
          rw [if_neg hz]
          refine ⟨fun q q0 q1 => ?_, fun q r q0 q1 r0 r1 => ?_, fun r r0 r1 => ?_, fun q q0 q1 q2 => ?_⟩
          · simp (disch := omega) only [zpr_ne, zpr_at]
            exact hC1 q q0 q1
          · simp (disch := omega) only [zpr_ne, zpr_at]
            rw [zrw_if]
            by_cases e : q = s
            · rw [if_pos e, e, show z64 (fun x1 x2 => x1 ||| x2) (m (o + 11) s) (zbit p) = zset (m (o + 11) s) p from rfl, zbt_set ⟨hq, by omega⟩ ⟨r0, r1⟩, hC2 _ r hs.1 hs.2 r0 r1]
              simp
            · rw [if_neg e, hC2 q r q0 q1 r0 r1]
              simp [e]
          · simp (disch := omega) only [zpr_ne, zpr_at]
            exact hC3 r r0 r1
          · simp (disch := omega) only [zpr_ne, zpr_at]
            dsimp only at q2 ⊢
            have e1 : q ≠ s := fun e => by rw [e, hb] at q2; omega
            rw [zrw_ne e1]
            exact hC4 q q0 q1 q2
    · have h4 : P.2.2 p = -4 := by rcases hq2 with h | h <;> omega
      have hz : zwin pu va P s p = true := by
        unfold zwin
        rw [decide_eq_true_eq]
        exact Or.inl h4
      rw [if_neg ho]
      refine ⟨_, rfl, ?_, ?_⟩
      · intro a ha
        obtain ⟨a1, a2, a3, a4⟩ := zmem4 ha
        simp only [ne_eq, a1, a2, a3, a4, not_false_eq_true, zpr_ne]
      · unfold zst1
        rw [if_pos hz, h4]
        refine ⟨fun q q0 q1 => ?_, fun q r q0 q1 r0 r1 => ?_, fun r r0 r1 => ?_, fun q q0 q1 q2 => ?_⟩
        · simp (disch := omega) only [zpr_ne, zpr_at]
          rw [zrw_if, hC1 q q0 q1, if_neg (show ¬ q = -4 by omega)]
        · simp (disch := omega) only [zpr_ne, zpr_at]
          rw [hC2 q r q0 q1 r0 r1]
          have : ¬ q = -4 := by omega
          simp [this]
        · simp (disch := omega) only [zpr_ne, zpr_at]
          rw [zrw_if, hC3 r r0 r1]
        · simp (disch := omega) only [zpr_ne, zpr_at]
          dsimp only at q2 ⊢
          by_cases e1 : q = s
          · subst e1; rw [zrw_at, if_pos rfl]
          · rw [if_neg e1, if_neg (show ¬ q = -4 by omega)] at q2 ⊢
            rw [zrw_ne e1]
            exact hC4 q q0 q1 q2
  · rw [if_pos (by omega), if_neg hq, if_neg hq]
    exact ⟨m, rfl, zfr_rf _ _, hC⟩
theorem tz_ssettle (hB : SK R o) (hS : SIn m o n nc y wt ca pu va) : ∃ (m' : zM) (Q : zP), ev 97 0 [(2, o), (0, y), (0, n), (9, 0), (9, 0), (9, 0)] [] R m = some ((9, 0), R, m') ∧ zfr [o + 9, o + 10, o + 11, o + 12] m m' ∧ CS m' o nc pu va Q ∧ zPI n nc Q ∧ zfin n nc wt ca pu va Q := by
  have hSS := fun m' (hf : zfr [o + 9, o + 10, o + 11, o + 12] m m') => SIn_fr hf hS
  have AK := fun m' (hf : zfr [o + 9, o + 10, o + 11, o + 12] m m') P hC hP s hs hw hb => tz_sask (m := m') (P := P) (s := s) hB (hSS m' hf) hC hP hs hw hb
  have W := fun m' (hV : m' o 0 ≤ 20) s h => tz_swaits (R := R) (m := m') (s := s) hB hV h y
  have HD := fun m' (hV : m' o 0 ≤ 20) s h => tz_sheld (R := R) (m := m') (s := s) hB hV h
  have hnc := hS.2.1
  have hn := hS.2.2.1
  obtain ⟨hSK0, hSK1, hSK2, hSK3, hSK4, hSK5, hSK6, hSK7, hSK8, hSK9, hSK10, hSK11, hSK12, hSK13, hSK14, hSK15, hSK16, hSK17, hSK18, hSK19, hSK20, hSK21, hSK22, hSK23, hSK24, hSK25, hSK26, hSK27, hSK28, hSK29, hSK30, hSK31, hSK32, hSK33, hSK34, hSK35, hSK36, hSK37, hSK38, hSK39, hSK40, hSK41, hSK42, hSK43, hSK44, hSK45⟩ := hB
  have F1 := fun m' : zM => tz_fill (a := o + 9) (n := 20) (-4) (R := R) (m := m') (by assumption) (by assumption) (by omega) (by omega)
  have F2 := fun m' : zM => tz_fillJ (a := o + 11) (n := 20) 0 (R := R) (m := m') (by assumption) (by assumption) (by omega) (by omega)
  have F3 := fun m' : zM => tz_fill (a := o + 12) (n := 64) (-4) (R := R) (m := m') (by assumption) (by assumption) (by omega) (by omega)
  simp only [s97_0, s97_1, s97_4, s97_6, s97_9, s97_10, s97_13, s97_14, s97_17, s97_18, s97_21, s97_23, s97_26, s97_27, s97_28, s97_29, s97_32, s97_35, s97_37, s97_40, s97_43, s97_44, s97_45, s97_46, s97_50, s97_51, s97_54, s97_57, s97_58, s97_60, s97_61, s97_64, s97_67, s97_68, s97_70, s97_73, s97_75, s97_78, s97_79, s97_81, s97_82, s97_85, s97_88, s97_89, s97_90, s97_93, s97_96, s97_99, s97_102, zps_0, zps_1, zps_2, zps_3, zps_9, Option.bind_some, Option.bind_none, Int.reduceEq, Int.reduceNe, Int.reduceLT, Int.reduceLE, Int.reduceNeg, Int.reduceAdd, Int.reduceSub, Int.reduceMul, reduceIte, if_true, if_false, true_and, and_true, false_and, and_false, or_true, true_or, or_false, false_or, not_true_eq_false, not_false_eq_true, ite_not, z_b0, z_b1, z_b01, hSK0, hSK1, hSK2, hSK3, hSK4, hSK5, hSK6, hSK7, hSK8, hSK9, hSK10, hSK11, hSK12, hSK13, hSK14, hSK15, hSK16, hSK17, hSK18, hSK19, hSK20, hSK21, hSK22, hSK23, hSK24, hSK25, hSK26, hSK27, hSK28, hSK29, hSK30, hSK31, hSK32, hSK33, hSK34, hSK35, hSK36, hSK37, hSK38, hSK39, hSK40, hSK41, hSK42, hSK43, hSK44, hSK45, F1, F2, F3]
  have fr0 : zfr [o + 9, o + 10, o + 11, o + 12] m (zpr (zpr (zpr m (o + 9) (zfll (m (o + 9)) 20 (-4))) (o + 11) (zfll (zpr m (o + 9) (zfll (m (o + 9)) 20 (-4)) (o + 11)) 20 0)) (o + 12) (zfll (zpr (zpr m (o + 9) (zfll (m (o + 9)) 20 (-4))) (o + 11) (zfll (zpr m (o + 9) (zfll (m (o + 9)) 20 (-4)) (o + 11)) 20 0) (o + 12)) 64 (-4))) := by
    intro a ha
    obtain ⟨a1, a2, a3, a4⟩ := zmem4 ha
    rw [zpr_ne a4, zpr_ne a3, zpr_ne a1]
  have cs0 : CS (zpr (zpr (zpr m (o + 9) (zfll (m (o + 9)) 20 (-4))) (o + 11) (zfll (zpr m (o + 9) (zfll (m (o + 9)) 20 (-4)) (o + 11)) 20 0)) (o + 12) (zfll (zpr (zpr m (o + 9) (zfll (m (o + 9)) 20 (-4))) (o + 11) (zfll (zpr m (o + 9) (zfll (m (o + 9)) 20 (-4)) (o + 11)) 20 0) (o + 12)) 64 (-4))) o nc pu va zP0 := by
    refine ⟨fun q q0 q1 => ?_, fun q r q0 q1 r0 r1 => ?_, fun r r0 r1 => ?_, fun q q0 q1 q2 => ?_⟩
    · simp (disch := omega) only [zpr_ne, zpr_at]
      rw [zfll_at ⟨q0, by omega⟩]
      rfl
    · simp (disch := omega) only [zpr_ne, zpr_at]
      rw [zfll_at ⟨q0, by omega⟩, zbt_0]
      rfl
    · simp (disch := omega) only [zpr_ne, zpr_at]
      rw [zfll_at ⟨r0, by omega⟩]
      rfl
    · simp [zP0] at q2
  generalize zpr (zpr (zpr m (o + 9) (zfll (m (o + 9)) 20 (-4))) (o + 11) (zfll (zpr m (o + 9) (zfll (m (o + 9)) 20 (-4)) (o + 11)) 20 0)) (o + 12) (zfll (zpr (zpr m (o + 9) (zfll (m (o + 9)) 20 (-4))) (o + 11) (zfll (zpr m (o + 9) (zfll (m (o + 9)) 20 (-4)) (o + 11)) 20 0) (o + 12)) 64 (-4)) = m0 at fr0 cs0 ⊢
  refine zloop (fun r => ∃ (m' : zM) (Q : zP), r = some ((9, 0), R, m') ∧ zfr [o + 9, o + 10, o + 11, o + 12] m m' ∧ CS m' o nc pu va Q ∧ zPI n nc Q ∧ zfin n nc wt ca pu va Q) (fun k (a : zM × Bool × zV) => ev 97 31 [(2, o), (0, y), (0, n), (0, if a.2.1 = true then 1 else 0), (0, k), a.2.2] [] R a.1) 1281 (fun k a => 0 ≤ k ∧ zfr [o + 9, o + 10, o + 11, o + 12] m a.1 ∧ ∃ P, CS a.1 o nc pu va P ∧ zPI n nc P ∧ P = zit (fun P => (zrd n wt ca pu va P nc.toNat).1) k.toNat zP0 ∧ (a.2.1 = true → k ≤ zPhi n nc P) ∧ (a.2.1 = false → zfin n nc wt ca pu va P)) ?_ ?_ 0 (m0, true, (9, 0)) (by omega) ⟨by omega, fr0, zP0, cs0, zPI_0 n nc, rfl, fun _ => (zPhi_bd hn hnc zP0).1, fun h => by cases h⟩
  · intro k ⟨m1, b, l5⟩ hk ⟨hk0, hf, P, hC, hP, hPk, hb1, hb2⟩ ih
    rw [s97_31]
    cases b with
    | false =>
      simp only [s97_0, s97_1, s97_4, s97_6, s97_9, s97_10, s97_13, s97_14, s97_17, s97_18, s97_21, s97_23, s97_26, s97_27, s97_28, s97_29, s97_32, s97_35, s97_37, s97_40, s97_43, s97_44, s97_45, s97_46, s97_50, s97_51, s97_54, s97_57, s97_58, s97_60, s97_61, s97_64, s97_67, s97_68, s97_70, s97_73, s97_75, s97_78, s97_79, s97_81, s97_82, s97_85, s97_88, s97_89, s97_90, s97_93, s97_96, s97_99, s97_102, zps_0, zps_1, zps_2, zps_3, zps_9, Option.bind_some, Option.bind_none, Int.reduceEq, Int.reduceNe, Int.reduceLT, Int.reduceLE, Int.reduceNeg, Int.reduceAdd, Int.reduceSub, Int.reduceMul, reduceIte, if_true, if_false, true_and, and_true, false_and, and_false, or_true, true_or, or_false, false_or, not_true_eq_false, not_false_eq_true, ite_not, z_b0, z_b1, z_b01, hSK0, hSK1, hSK2, hSK3, hSK4, hSK5, hSK6, hSK7, hSK8, hSK9, hSK10, hSK11, hSK12, hSK13, hSK14, hSK15, hSK16, hSK17, hSK18, hSK19, hSK20, hSK21, hSK22, hSK23, hSK24, hSK25, hSK26, hSK27, hSK28, hSK29, hSK30, hSK31, hSK32, hSK33, hSK34, hSK35, hSK36, hSK37, hSK38, hSK39, hSK40, hSK41, hSK42, hSK43, hSK44, hSK45, Bool.false_eq_true]
      exact ⟨m1, P, rfl, hf, hC, hP, hb2 rfl⟩
    | true =>
      simp (disch := omega) only [s97_0, s97_1, s97_4, s97_6, s97_9, s97_10, s97_13, s97_14, s97_17, s97_18, s97_21, s97_23, s97_26, s97_27, s97_28, s97_29, s97_32, s97_35, s97_37, s97_40, s97_43, s97_44, s97_45, s97_46, s97_50, s97_51, s97_54, s97_57, s97_58, s97_60, s97_61, s97_64, s97_67, s97_68, s97_70, s97_73, s97_75, s97_78, s97_79, s97_81, s97_82, s97_85, s97_88, s97_89, s97_90, s97_93, s97_96, s97_99, s97_102, zps_0, zps_1, zps_2, zps_3, zps_9, Option.bind_some, Option.bind_none, Int.reduceEq, Int.reduceNe, Int.reduceLT, Int.reduceLE, Int.reduceNeg, Int.reduceAdd, Int.reduceSub, Int.reduceMul, reduceIte, if_true, if_false, true_and, and_true, false_and, and_false, or_true, true_or, or_false, false_or, not_true_eq_false, not_false_eq_true, ite_not, z_b0, z_b1, z_b01, hSK0, hSK1, hSK2, hSK3, hSK4, hSK5, hSK6, hSK7, hSK8, hSK9, hSK10, hSK11, hSK12, hSK13, hSK14, hSK15, hSK16, hSK17, hSK18, hSK19, hSK20, hSK21, hSK22, hSK23, hSK24, hSK25, hSK26, hSK27, hSK28, hSK29, hSK30, hSK31, hSK32, hSK33, hSK34, hSK35, hSK36, hSK37, hSK38, hSK39, hSK40, hSK41, hSK42, hSK43, hSK44, hSK45, if_neg]
      have hkP := hb1 rfl
      refine zloop (fun r => ∃ (m' : zM) (Q : zP), r = some ((9, 0), R, m') ∧ zfr [o + 9, o + 10, o + 11, o + 12] m m' ∧ CS m' o nc pu va Q ∧ zPI n nc Q ∧ zfin n nc wt ca pu va Q) (fun s (a : zM × Bool) => ev 97 48 [(2, o), (0, y), (0, n), (0, if a.2 = true then 1 else 0), (0, k), (0, s)] [] R a.1) nc (fun s a => 0 ≤ s ∧ zfr [o + 9, o + 10, o + 11, o + 12] m a.1 ∧ CS a.1 o nc pu va (zrd n wt ca pu va P s.toNat).1 ∧ a.2 = (zrd n wt ca pu va P s.toNat).2) ?_ ?_ 0 (m1, false) (by omega) ⟨by omega, hf, hC, rfl⟩
      · intro s ⟨m2, b⟩ hs ⟨hs0, hf2, hC2, hb⟩ ih2
        dsimp only at hb hf2 hC2
        have hV := hSS m2 hf2
        have h2 := hV.2.2.2 s hs0 hs
        have e1 : m2 o 0 = nc := hV.1
        have hP2 := zrd_PI (wt := wt) (ca := ca) (pu := pu) (va := va) hP s.toNat (by omega)
        have e : (s + 1).toNat = s.toNat + 1 := by omega
        have e2 : ((s.toNat : Nat) : Int) = s := by omega
        rw [s97_48]
        simp (disch := omega) only [s97_0, s97_1, s97_4, s97_6, s97_9, s97_10, s97_13, s97_14, s97_17, s97_18, s97_21, s97_23, s97_26, s97_27, s97_28, s97_29, s97_32, s97_35, s97_37, s97_40, s97_43, s97_44, s97_45, s97_46, s97_50, s97_51, s97_54, s97_57, s97_58, s97_60, s97_61, s97_64, s97_67, s97_68, s97_70, s97_73, s97_75, s97_78, s97_79, s97_81, s97_82, s97_85, s97_88, s97_89, s97_90, s97_93, s97_96, s97_99, s97_102, zps_0, zps_1, zps_2, zps_3, zps_9, Option.bind_some, Option.bind_none, Int.reduceEq, Int.reduceNe, Int.reduceLT, Int.reduceLE, Int.reduceNeg, Int.reduceAdd, Int.reduceSub, Int.reduceMul, reduceIte, if_true, if_false, true_and, and_true, false_and, and_false, or_true, true_or, or_false, false_or, not_true_eq_false, not_false_eq_true, ite_not, z_b0, z_b1, z_b01, hSK0, hSK1, hSK2, hSK3, hSK4, hSK5, hSK6, hSK7, hSK8, hSK9, hSK10, hSK11, hSK12, hSK13, hSK14, hSK15, hSK16, hSK17, hSK18, hSK19, hSK20, hSK21, hSK22, hSK23, hSK24, hSK25, hSK26, hSK27, hSK28, hSK29, hSK30, hSK31, hSK32, hSK33, hSK34, hSK35, hSK36, hSK37, hSK38, hSK39, hSK40, hSK41, hSK42, hSK43, hSK44, hSK45, e1, if_neg (show ¬ nc ≤ s by omega), W m2 (by omega) s ⟨hs0, by omega⟩, HD m2 (by omega) s ⟨hs0, by omega⟩, zw_i]
        rw [← h2.2.2.2.1, hC2.1 s hs0 hs]
        rw [e] at ih2
        simp only [zrd, e2] at ih2
        generalize hPs : (zrd n wt ca pu va P s.toNat).1 = Ps at *
        generalize hbs : (zrd n wt ca pu va P s.toNat).2 = bs at *
        subst hb
        unfold zst at ih2
        by_cases hw : wt s = true
        · rw [if_pos hw]
          by_cases hx : Ps.1 s = -4
          · rw [if_pos hx]
            obtain ⟨m3, g1, g2, g3⟩ := AK m2 hf2 Ps hC2 hP2 s ⟨hs0, hs⟩ hw hx
            simp only [g1, Option.bind_some, zps_0]
            by_cases hq : 0 ≤ zbst n ca va Ps s
            · rw [if_pos hq] at g3
              simp only [if_pos (show wt s = true ∧ Ps.1 s = -4 ∧ 0 ≤ zbst n ca va Ps s from ⟨hw, hx, hq⟩)] at ih2
              simp (disch := omega) only [if_pos hq, s97_0, s97_1, s97_4, s97_6, s97_9, s97_10, s97_13, s97_14, s97_17, s97_18, s97_21, s97_23, s97_26, s97_27, s97_28, s97_29, s97_32, s97_35, s97_37, s97_40, s97_43, s97_44, s97_45, s97_46, s97_50, s97_51, s97_54, s97_57, s97_58, s97_60, s97_61, s97_64, s97_67, s97_68, s97_70, s97_73, s97_75, s97_78, s97_79, s97_81, s97_82, s97_85, s97_88, s97_89, s97_90, s97_93, s97_96, s97_99, s97_102, zps_0, zps_1, zps_2, zps_3, zps_9, Option.bind_some, Option.bind_none, Int.reduceEq, Int.reduceNe, Int.reduceLT, Int.reduceLE, Int.reduceNeg, Int.reduceAdd, Int.reduceSub, Int.reduceMul, reduceIte, if_true, if_false, true_and, and_true, false_and, and_false, or_true, true_or, or_false, false_or, not_true_eq_false, not_false_eq_true, ite_not, z_b0, z_b1, z_b01, zw_i]
              exact ih2 (m3, true) ⟨by omega, zfr_tr hf2 g2, g3, by simp⟩
            · rw [if_neg hq] at g3
              simp only [if_neg (show ¬ (wt s = true ∧ Ps.1 s = -4 ∧ 0 ≤ zbst n ca va Ps s) from fun z => hq z.2.2)] at ih2
              simp (disch := omega) only [if_neg hq, s97_0, s97_1, s97_4, s97_6, s97_9, s97_10, s97_13, s97_14, s97_17, s97_18, s97_21, s97_23, s97_26, s97_27, s97_28, s97_29, s97_32, s97_35, s97_37, s97_40, s97_43, s97_44, s97_45, s97_46, s97_50, s97_51, s97_54, s97_57, s97_58, s97_60, s97_61, s97_64, s97_67, s97_68, s97_70, s97_73, s97_75, s97_78, s97_79, s97_81, s97_82, s97_85, s97_88, s97_89, s97_90, s97_93, s97_96, s97_99, s97_102, zps_0, zps_1, zps_2, zps_3, zps_9, Option.bind_some, Option.bind_none, Int.reduceEq, Int.reduceNe, Int.reduceLT, Int.reduceLE, Int.reduceNeg, Int.reduceAdd, Int.reduceSub, Int.reduceMul, reduceIte, if_true, if_false, true_and, and_true, false_and, and_false, or_true, true_or, or_false, false_or, not_true_eq_false, not_false_eq_true, ite_not, z_b0, z_b1, z_b01, zw_i]
              exact ih2 (m3, b) ⟨by omega, zfr_tr hf2 g2, g3, by simp⟩
          · rw [if_neg hx]
            simp only [if_neg (show ¬ (wt s = true ∧ Ps.1 s = -4 ∧ 0 ≤ zbst n ca va Ps s) from fun z => hx z.2.1)] at ih2
            exact ih2 (m2, b) ⟨by omega, hf2, hC2, by simp⟩
        · rw [if_neg hw]
          simp only [if_neg (show ¬ (wt s = true ∧ Ps.1 s = -4 ∧ 0 ≤ zbst n ca va Ps s) from fun z => hw z.1)] at ih2
          exact ih2 (m2, b) ⟨by omega, hf2, hC2, by simp⟩
      · intro ⟨m2, b⟩ ⟨hs0, hf2, hC2, hb⟩
        have hV := hSS m2 hf2
        have e1 : m2 o 0 = nc := hV.1
        rw [s97_48]
        simp (disch := omega) only [s97_0, s97_1, s97_4, s97_6, s97_9, s97_10, s97_13, s97_14, s97_17, s97_18, s97_21, s97_23, s97_26, s97_27, s97_28, s97_29, s97_32, s97_35, s97_37, s97_40, s97_43, s97_44, s97_45, s97_46, s97_50, s97_51, s97_54, s97_57, s97_58, s97_60, s97_61, s97_64, s97_67, s97_68, s97_70, s97_73, s97_75, s97_78, s97_79, s97_81, s97_82, s97_85, s97_88, s97_89, s97_90, s97_93, s97_96, s97_99, s97_102, zps_0, zps_1, zps_2, zps_3, zps_9, Option.bind_some, Option.bind_none, Int.reduceEq, Int.reduceNe, Int.reduceLT, Int.reduceLE, Int.reduceNeg, Int.reduceAdd, Int.reduceSub, Int.reduceMul, reduceIte, if_true, if_false, true_and, and_true, false_and, and_false, or_true, true_or, or_false, false_or, not_true_eq_false, not_false_eq_true, ite_not, z_b0, z_b1, z_b01, hSK0, hSK1, hSK2, hSK3, hSK4, hSK5, hSK6, hSK7, hSK8, hSK9, hSK10, hSK11, hSK12, hSK13, hSK14, hSK15, hSK16, hSK17, hSK18, hSK19, hSK20, hSK21, hSK22, hSK23, hSK24, hSK25, hSK26, hSK27, hSK28, hSK29, hSK30, hSK31, hSK32, hSK33, hSK34, hSK35, hSK36, hSK37, hSK38, hSK39, hSK40, hSK41, hSK42, hSK43, hSK44, hSK45, e1, if_pos (show nc ≤ nc by omega), zw_i]
        have hP2 := zrd_PI (wt := wt) (ca := ca) (pu := pu) (va := va) hP nc.toNat (by omega)
        have hF := zrd_Phi (wt := wt) (ca := ca) (pu := pu) (va := va) hP nc.toNat (by omega)
        refine ih (m2, b, (0, nc)) ⟨by omega, hf2, (zrd n wt ca pu va P nc.toNat).1, hC2, hP2, ?_, ?_, ?_⟩
        · rw [show (k + 1).toNat = k.toNat + 1 by omega]
          simp only [zit]
          rw [← hPk]
        · intro hbt
          have := hF.2 (hb.symm.trans hbt)
          omega
        · intro hbf
          have hz := hb.symm.trans hbf
          have := zrd_stay _ hz
          rw [this]
          exact ⟨k.toNat, hPk, hz⟩
  · intro ⟨m1, b, l5⟩ ⟨hk0, hf, P, hC, hP, hPk, hb1, hb2⟩
    rw [s97_31]
    cases b with
    | false =>
      simp only [s97_0, s97_1, s97_4, s97_6, s97_9, s97_10, s97_13, s97_14, s97_17, s97_18, s97_21, s97_23, s97_26, s97_27, s97_28, s97_29, s97_32, s97_35, s97_37, s97_40, s97_43, s97_44, s97_45, s97_46, s97_50, s97_51, s97_54, s97_57, s97_58, s97_60, s97_61, s97_64, s97_67, s97_68, s97_70, s97_73, s97_75, s97_78, s97_79, s97_81, s97_82, s97_85, s97_88, s97_89, s97_90, s97_93, s97_96, s97_99, s97_102, zps_0, zps_1, zps_2, zps_3, zps_9, Option.bind_some, Option.bind_none, Int.reduceEq, Int.reduceNe, Int.reduceLT, Int.reduceLE, Int.reduceNeg, Int.reduceAdd, Int.reduceSub, Int.reduceMul, reduceIte, if_true, if_false, true_and, and_true, false_and, and_false, or_true, true_or, or_false, false_or, not_true_eq_false, not_false_eq_true, ite_not, z_b0, z_b1, z_b01, hSK0, hSK1, hSK2, hSK3, hSK4, hSK5, hSK6, hSK7, hSK8, hSK9, hSK10, hSK11, hSK12, hSK13, hSK14, hSK15, hSK16, hSK17, hSK18, hSK19, hSK20, hSK21, hSK22, hSK23, hSK24, hSK25, hSK26, hSK27, hSK28, hSK29, hSK30, hSK31, hSK32, hSK33, hSK34, hSK35, hSK36, hSK37, hSK38, hSK39, hSK40, hSK41, hSK42, hSK43, hSK44, hSK45, Bool.false_eq_true]
      exact ⟨m1, P, rfl, hf, hC, hP, hb2 rfl⟩
    | true =>
      have := hb1 rfl
      have := (zPhi_bd hn hnc P).2
      omega
end SETTLE
