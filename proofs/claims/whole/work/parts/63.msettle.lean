/-! the model: bids settle -/
def mwai (m : zM) (s : Int) : Bool := decide (m 109 s ≤ m 100 6 ∧ m 110 s = -4 ∧ m 111 s = 0)
def MIn (m : zM) (n nc : Int) (wt : Int → Bool) (ca : Int → Int → Bool) (pu : Int → Int) (va : Int → Int → Int) : Prop := MV m ∧ mN m = n ∧ m 100 10 = nc ∧ (0 ≤ nc ∧ nc ≤ 20) ∧ ∀ s, 0 ≤ s → s < nc → (1 ≤ m 106 s ∧ m 106 s ≤ 3) ∧ (1 ≤ m 107 s ∧ m 107 s ≤ 999) ∧ (-9 ≤ m 108 s ∧ m 108 s ≤ 9) ∧ wt s = mwai m s ∧ pu s = m 107 s ∧ ∀ p, 0 ≤ p → p < n → m 128 (64 * m 106 s + p) = (if ca s p = true then 1 else 0) ∧ va s p = m 127 (64 * m 106 s + p) + m 108 s * m 102 p ∧ (-100000 ≤ m 127 (64 * m 106 s + p) ∧ m 127 (64 * m 106 s + p) ≤ 100000)
def MS (m : zM) (nc : Int) (P : zP) : Prop := (∀ s, 0 ≤ s → s < nc → m 125 s = P.1 s) ∧ (∀ s p, 0 ≤ s → s < nc → 0 ≤ p → p < 64 → zbt (m 126 s) p = P.2.1 s p) ∧ (∀ p, 0 ≤ p → p < 64 → m 124 p = P.2.2 p)
theorem MIn_fr {m m' : zM} {n nc : Int} {wt : Int → Bool} {ca : Int → Int → Bool} {pu : Int → Int} {va : Int → Int → Int} (h : zfr [124, 125, 126] m m') (hS : MIn m n nc wt ca pu va) : MIn m' n nc wt ca pu va := by
  have e : ∀ a, a < 124 ∨ 126 < a → m' a = m a := fun a ha => h a (by
    simp only [List.mem_cons, List.not_mem_nil, or_false, not_or]
    omega)
  unfold MIn MV mN mwai at *
  rw [e 100 (by omega), e 101 (by omega), e 102 (by omega), e 103 (by omega), e 106 (by omega), e 107 (by omega), e 108 (by omega), e 109 (by omega), e 110 (by omega), e 111 (by omega), e 127 (by omega), e 128 (by omega)]
  exact hS
section MSETTLE
variable {R m : zM} {n nc : Int} {wt : Int → Bool} {ca : Int → Int → Bool} {pu : Int → Int} {va : Int → Int → Int} {P : zP}
theorem tz_mseeks (hM : MK R) {s : Int} (hs : 0 ≤ s ∧ s < 20) : ev 267 0 [(2, 100), (0, s)] [] R m = some ((0, if mwai m s = true then 1 else 0), R, m) := by
  simp only [s267_0, s267_1, s267_4, s267_5, s267_6, s267_7, s267_10, s267_13, s267_14, s267_17, s267_18, s267_19, s267_21, s267_24, s267_25, s267_28, s267_29, s267_30, s267_33, s267_34, s267_37, s267_38, zps_0, zps_1, zps_2, zps_3, zps_9, Option.bind_some, Option.bind_none, Int.reduceEq, Int.reduceNe, Int.reduceLT, Int.reduceLE, Int.reduceNeg, Int.reduceAdd, Int.reduceSub, Int.reduceMul, reduceIte, if_true, if_false, true_and, and_true, false_and, and_false, or_true, true_or, or_false, false_or, not_true_eq_false, not_false_eq_true, ite_not, z_b0, z_b1, z_b01, rMK0 hM, rMK1 hM, rMK2 hM, rMK3 hM, rMK4 hM, rMK5 hM, rMK6 hM, rMK7 hM, rMK8 hM, rMK9 hM, rMK10 hM, rMK11 hM, rMK12 hM, rMK13 hM, rMK14 hM, rMK15 hM, rMK16 hM, rMK17 hM, rMK18 hM, rMK19 hM, rMK20 hM, rMK21 hM, rMK22 hM, rMK23 hM, rMK24 hM, rMK25 hM, rMK26 hM, rMK27 hM, rMK28 hM, rMK29 hM, rMK30 hM, rMK31 hM, rMK32 hM, rMK33 hM, rMK34 hM, rMK35 hM, rMK36 hM, rMK37 hM, rMK38 hM, rMK39 hM, rMK40 hM, rMK41 hM, rMK42 hM, rMK43 hM, rMK44 hM, rMK45 hM, rMK46 hM, rMK47 hM, rMK48 hM, rMK49 hM, rMK50 hM, rMK51 hM, kMK0, kMK1, kMK2, kMK3, kMK4, kMK5, kMK6, kMK7, kMK8, kMK9, kMK10, kMK11, kMK12, kMK13, kMK14, kMK15, kMK16, kMK17, kMK18, kMK19, kMK20, kMK21, kMK22, kMK23, kMK24, kMK25, kMK26, kMK27, kMK28, kMK29, kMK30, kMK31, kMK32, kMK33, kMK34, kMK35, kMK36, kMK37, kMK38, kMK39, kMK40, kMK41, kMK42, kMK43, kMK44, kMK45, kMK46, kMK47, kMK48, kMK49, kMK50, kMK51, kMK52, kMK53, kMK54, kMK55, kMK56, kMK57, kMK58, kMK59, kMK60, kMK61, kMK62, kMK63, kMK64, kMK65, kMK66, kMK67, kMK68, kMK69, kMK70, kMK71, kMK72, kMK73, kMK74, kMK75, kMK76, kMK77, kMK78, kMK79, kMK80, kMK81, kMK82, kMK83, kMK84, kMK85, kMK86, kMK87, kMK88, kMK89, kMK90, kMK91, kMK92, kMK93, kMK94, kMK95, kMK96, kMK97, kMK98, kMK99, kMK100, kMK101, kMK102, kMK103, kMK104, hs]
  unfold mwai
  simp only [decide_eq_true_eq]
  (repeat' split) <;> first | rfl | (exfalso; omega)
theorem tz_mvalue (hM : MK R) (hS : MIn m n nc wt ca pu va) {s p : Int} (hs : 0 ≤ s ∧ s < nc) (hp : 0 ≤ p ∧ p < n) : ev 270 0 [(2, 100), (0, s), (0, p)] [] R m = some ((0, va s p), R, m) := by
  obtain ⟨h1, h2, h3, h4, h5⟩ := hS
  have hN := MV_n h1
  have h6 := h5 s hs.1 hs.2
  have h7 := h6.2.2.2.2.2 p hp.1 hp.2
  have h8 := ((h1.2.2 p hp.1 (by omega)).2.1)
  have h9 := ztm h6.2.2.1 h8
  have c1 : 0 ≤ s ∧ s < 20 := by omega
  have c2 : 0 ≤ p ∧ p < 64 := by omega
  have e1 : zw (64 * m 106 s) = 64 * m 106 s := zw_i (by omega) (by omega)
  have e2 : zw (64 * m 106 s + p) = 64 * m 106 s + p := zw_i (by omega) (by omega)
  have c3 : 0 ≤ 64 * m 106 s + p ∧ 64 * m 106 s + p < 256 := by omega
  have e3 : zw (m 108 s * m 102 p) = m 108 s * m 102 p := zw_i (by omega) (by omega)
  have e4 : zw (m 127 (64 * m 106 s + p) + m 108 s * m 102 p) = va s p := by rw [h7.2.1]; exact zw_i (by omega) (by omega)
  simp only [s270_0, s270_1, s270_4, s270_6, s270_7, s270_10, s270_11, s270_12, s270_13, s270_14, s270_15, s270_16, s270_17, s270_20, s270_21, s270_22, s270_23, s270_26, s270_27, s270_28, s270_29, s270_30, zps_0, zps_1, zps_2, zps_3, zps_9, Option.bind_some, Option.bind_none, Int.reduceEq, Int.reduceNe, Int.reduceLT, Int.reduceLE, Int.reduceNeg, Int.reduceAdd, Int.reduceSub, Int.reduceMul, reduceIte, if_true, if_false, true_and, and_true, false_and, and_false, or_true, true_or, or_false, false_or, not_true_eq_false, not_false_eq_true, ite_not, z_b0, z_b1, z_b01, rMK0 hM, rMK1 hM, rMK2 hM, rMK3 hM, rMK4 hM, rMK5 hM, rMK6 hM, rMK7 hM, rMK8 hM, rMK9 hM, rMK10 hM, rMK11 hM, rMK12 hM, rMK13 hM, rMK14 hM, rMK15 hM, rMK16 hM, rMK17 hM, rMK18 hM, rMK19 hM, rMK20 hM, rMK21 hM, rMK22 hM, rMK23 hM, rMK24 hM, rMK25 hM, rMK26 hM, rMK27 hM, rMK28 hM, rMK29 hM, rMK30 hM, rMK31 hM, rMK32 hM, rMK33 hM, rMK34 hM, rMK35 hM, rMK36 hM, rMK37 hM, rMK38 hM, rMK39 hM, rMK40 hM, rMK41 hM, rMK42 hM, rMK43 hM, rMK44 hM, rMK45 hM, rMK46 hM, rMK47 hM, rMK48 hM, rMK49 hM, rMK50 hM, rMK51 hM, kMK0, kMK1, kMK2, kMK3, kMK4, kMK5, kMK6, kMK7, kMK8, kMK9, kMK10, kMK11, kMK12, kMK13, kMK14, kMK15, kMK16, kMK17, kMK18, kMK19, kMK20, kMK21, kMK22, kMK23, kMK24, kMK25, kMK26, kMK27, kMK28, kMK29, kMK30, kMK31, kMK32, kMK33, kMK34, kMK35, kMK36, kMK37, kMK38, kMK39, kMK40, kMK41, kMK42, kMK43, kMK44, kMK45, kMK46, kMK47, kMK48, kMK49, kMK50, kMK51, kMK52, kMK53, kMK54, kMK55, kMK56, kMK57, kMK58, kMK59, kMK60, kMK61, kMK62, kMK63, kMK64, kMK65, kMK66, kMK67, kMK68, kMK69, kMK70, kMK71, kMK72, kMK73, kMK74, kMK75, kMK76, kMK77, kMK78, kMK79, kMK80, kMK81, kMK82, kMK83, kMK84, kMK85, kMK86, kMK87, kMK88, kMK89, kMK90, kMK91, kMK92, kMK93, kMK94, kMK95, kMK96, kMK97, kMK98, kMK99, kMK100, kMK101, kMK102, kMK103, kMK104, c1, c2, c3, e1, e2, e3, e4]
theorem tz_mbid (hM : MK R) (hS : MIn m n nc wt ca pu va) {s p : Int} (hs : 0 ≤ s ∧ s < nc) (hp : 0 ≤ p ∧ p < n) : ev 271 0 [(2, 100), (0, s), (0, p), (9, 0)] [] R m = some ((0, zbid pu va s p), R, m) := by
  have V := tz_mvalue (R := R) hM hS hs hp
  obtain ⟨h1, h2, h3, h4, h5⟩ := hS
  have hpu := (h5 s hs.1 hs.2).2.2.2.2.1
  have c1 : 0 ≤ s ∧ s < 20 := by omega
  simp only [s271_0, s271_1, s271_2, s271_3, s271_6, s271_7, s271_8, s271_9, s271_12, s271_13, s271_14, s271_17, s271_18, s271_21, s271_22, s271_25, s271_26, s271_27, zps_0, zps_1, zps_2, zps_3, zps_9, Option.bind_some, Option.bind_none, Int.reduceEq, Int.reduceNe, Int.reduceLT, Int.reduceLE, Int.reduceNeg, Int.reduceAdd, Int.reduceSub, Int.reduceMul, reduceIte, if_true, if_false, true_and, and_true, false_and, and_false, or_true, true_or, or_false, false_or, not_true_eq_false, not_false_eq_true, ite_not, z_b0, z_b1, z_b01, rMK0 hM, rMK1 hM, rMK2 hM, rMK3 hM, rMK4 hM, rMK5 hM, rMK6 hM, rMK7 hM, rMK8 hM, rMK9 hM, rMK10 hM, rMK11 hM, rMK12 hM, rMK13 hM, rMK14 hM, rMK15 hM, rMK16 hM, rMK17 hM, rMK18 hM, rMK19 hM, rMK20 hM, rMK21 hM, rMK22 hM, rMK23 hM, rMK24 hM, rMK25 hM, rMK26 hM, rMK27 hM, rMK28 hM, rMK29 hM, rMK30 hM, rMK31 hM, rMK32 hM, rMK33 hM, rMK34 hM, rMK35 hM, rMK36 hM, rMK37 hM, rMK38 hM, rMK39 hM, rMK40 hM, rMK41 hM, rMK42 hM, rMK43 hM, rMK44 hM, rMK45 hM, rMK46 hM, rMK47 hM, rMK48 hM, rMK49 hM, rMK50 hM, rMK51 hM, kMK0, kMK1, kMK2, kMK3, kMK4, kMK5, kMK6, kMK7, kMK8, kMK9, kMK10, kMK11, kMK12, kMK13, kMK14, kMK15, kMK16, kMK17, kMK18, kMK19, kMK20, kMK21, kMK22, kMK23, kMK24, kMK25, kMK26, kMK27, kMK28, kMK29, kMK30, kMK31, kMK32, kMK33, kMK34, kMK35, kMK36, kMK37, kMK38, kMK39, kMK40, kMK41, kMK42, kMK43, kMK44, kMK45, kMK46, kMK47, kMK48, kMK49, kMK50, kMK51, kMK52, kMK53, kMK54, kMK55, kMK56, kMK57, kMK58, kMK59, kMK60, kMK61, kMK62, kMK63, kMK64, kMK65, kMK66, kMK67, kMK68, kMK69, kMK70, kMK71, kMK72, kMK73, kMK74, kMK75, kMK76, kMK77, kMK78, kMK79, kMK80, kMK81, kMK82, kMK83, kMK84, kMK85, kMK86, kMK87, kMK88, kMK89, kMK90, kMK91, kMK92, kMK93, kMK94, kMK95, kMK96, kMK97, kMK98, kMK99, kMK100, kMK101, kMK102, kMK103, kMK104, c1, V]
  unfold zbid
  rw [hpu]
  (repeat' split) <;> first | rfl | (exfalso; omega) | (congr 3; omega)
theorem tz_masks (hM : MK R) (hS : MIn m n nc wt ca pu va) (hC : MS m nc P) {s : Int} (hs : 0 ≤ s ∧ s < nc) : ev 269 0 [(2, 100), (0, s), (9, 0), (9, 0), (9, 0)] [] R m = some ((0, zbst n ca va P s), R, m) := by
  have V := fun p hp => tz_mvalue (R := R) (p := p) hM hS hs hp
  have Pl := tz_plots (R := R) hM hS.1
  obtain ⟨h1, h2, h3, h4, h5⟩ := hS
  have hN := MV_n h1
  have h6 := h5 s hs.1 hs.2
  simp only [s269_0, s269_2, s269_3, s269_4, s269_6, s269_7, s269_10, s269_13, s269_14, s269_17, s269_19, s269_20, s269_23, s269_24, s269_25, s269_26, s269_27, s269_28, s269_29, s269_32, s269_33, s269_36, s269_37, s269_38, s269_39, s269_40, s269_41, s269_42, s269_43, s269_44, s269_47, s269_48, s269_49, s269_50, s269_53, s269_56, s269_57, s269_60, s269_61, s269_63, s269_65, s269_68, s269_69, s269_71, s269_74, s269_75, s269_76, s269_77, s269_80, s269_81, s269_82, s269_83, s269_86, s269_89, s269_90, s269_93, s269_94, s269_95, s269_98, s269_101, s269_102, zps_0, zps_1, zps_2, zps_3, zps_9, Option.bind_some, Option.bind_none, Int.reduceEq, Int.reduceNe, Int.reduceLT, Int.reduceLE, Int.reduceNeg, Int.reduceAdd, Int.reduceSub, Int.reduceMul, reduceIte, if_true, if_false, true_and, and_true, false_and, and_false, or_true, true_or, or_false, false_or, not_true_eq_false, not_false_eq_true, ite_not, z_b0, z_b1, z_b01]
  unfold zbst
  refine zloop (fun r => r = some ((0, (zbp (fun p => ca s p && !P.2.1 s p) (va s) n.toNat).1), R, m)) (fun p (a : Int × zV) => ev 269 5 [(2, 100), (0, s), (0, a.1), (0, p), a.2] [] R m) n (fun p a => 0 ≤ p ∧ a.1 = (zbp (fun p => ca s p && !P.2.1 s p) (va s) p.toNat).1) ?_ ?_ 0 (-4, (9, 0)) (by omega) ⟨by omega, rfl⟩
  · intro p ⟨b, l4⟩ hp ⟨p0, hI⟩ ih
    have h7 := h6.2.2.2.2.2 p p0 hp
    have c1 : 0 ≤ s ∧ s < 20 := by omega
    have c2 : 0 ≤ p ∧ p < 64 := by omega
    have d0 : ¬ n ≤ p := by omega
    have e0 : zw (p + 1) = p + 1 := zw_i (by omega) (by omega)
    have e1 : zw (64 * m 106 s) = 64 * m 106 s := zw_i (by omega) (by omega)
    have e2 : zw (64 * m 106 s + p) = 64 * m 106 s + p := zw_i (by omega) (by omega)
    have c3 : 0 ≤ 64 * m 106 s + p ∧ 64 * m 106 s + p < 256 := by omega
    have hg := hC.2.1 s p hs.1 hs.2 p0 (by omega)
    have hz := z_ask (x := m 126 s) (p := p) ⟨p0, by omega⟩
    rw [hg] at hz
    have hbd := zbp_bd (fun p => ca s p && !P.2.1 s p) (va s) p.toNat
    have Vp := V p ⟨p0, hp⟩
    dsimp only at hI
    have Vb : b ≠ -4 → ev 270 0 [(2, 100), (0, s), (0, b)] [] R m = some ((0, va s b), R, m) ∧ va s b = (zbp (fun p => ca s p && !P.2.1 s p) (va s) p.toNat).2 := by
      intro hb
      rcases hbd with h | h
      · rw [← hI] at h; exact absurd h.1 hb
      · rw [← hI] at h
        exact ⟨V b ⟨h.1, by omega⟩, h.2.2.2.1.symm⟩
    have ih2 := fun a h => ih a ⟨by omega, h⟩
    have e : (p + 1).toNat = p.toNat + 1 := by omega
    have e3 : ((p.toNat : Nat) : Int) = p := by omega
    rw [e] at ih2
    simp only [zbp, e3] at ih2
    have no : ¬ ((ca s p && !P.2.1 s p) = true ∧ (zbp (fun p => ca s p && !P.2.1 s p) (va s) p.toNat).2 < va s p) → ∀ l4 : zV, ev 269 5 [(2, 100), (0, s), (0, b), (0, p + 1), l4] [] R m = some ((0, (zbp (fun p => ca s p && !P.2.1 s p) (va s) n.toNat).1), R, m) := by
      intro h l4
      exact ih2 (b, l4) (by rw [if_neg h]; exact hI)
    have yes : ((ca s p && !P.2.1 s p) = true ∧ (zbp (fun p => ca s p && !P.2.1 s p) (va s) p.toNat).2 < va s p) → ∀ l4 : zV, ev 269 5 [(2, 100), (0, s), (0, p), (0, p + 1), l4] [] R m = some ((0, (zbp (fun p => ca s p && !P.2.1 s p) (va s) n.toNat).1), R, m) := by
      intro h l4
      exact ih2 (p, l4) (by rw [if_pos h])
    rw [s269_5]
    simp only [s269_0, s269_2, s269_3, s269_4, s269_6, s269_7, s269_10, s269_13, s269_14, s269_17, s269_19, s269_20, s269_23, s269_24, s269_25, s269_26, s269_27, s269_28, s269_29, s269_32, s269_33, s269_36, s269_37, s269_38, s269_39, s269_40, s269_41, s269_42, s269_43, s269_44, s269_47, s269_48, s269_49, s269_50, s269_53, s269_56, s269_57, s269_60, s269_61, s269_63, s269_65, s269_68, s269_69, s269_71, s269_74, s269_75, s269_76, s269_77, s269_80, s269_81, s269_82, s269_83, s269_86, s269_89, s269_90, s269_93, s269_94, s269_95, s269_98, s269_101, s269_102, zps_0, zps_1, zps_2, zps_3, zps_9, Option.bind_some, Option.bind_none, Int.reduceEq, Int.reduceNe, Int.reduceLT, Int.reduceLE, Int.reduceNeg, Int.reduceAdd, Int.reduceSub, Int.reduceMul, reduceIte, if_true, if_false, true_and, and_true, false_and, and_false, or_true, true_or, or_false, false_or, not_true_eq_false, not_false_eq_true, ite_not, z_b0, z_b1, z_b01, rMK0 hM, rMK1 hM, rMK2 hM, rMK3 hM, rMK4 hM, rMK5 hM, rMK6 hM, rMK7 hM, rMK8 hM, rMK9 hM, rMK10 hM, rMK11 hM, rMK12 hM, rMK13 hM, rMK14 hM, rMK15 hM, rMK16 hM, rMK17 hM, rMK18 hM, rMK19 hM, rMK20 hM, rMK21 hM, rMK22 hM, rMK23 hM, rMK24 hM, rMK25 hM, rMK26 hM, rMK27 hM, rMK28 hM, rMK29 hM, rMK30 hM, rMK31 hM, rMK32 hM, rMK33 hM, rMK34 hM, rMK35 hM, rMK36 hM, rMK37 hM, rMK38 hM, rMK39 hM, rMK40 hM, rMK41 hM, rMK42 hM, rMK43 hM, rMK44 hM, rMK45 hM, rMK46 hM, rMK47 hM, rMK48 hM, rMK49 hM, rMK50 hM, rMK51 hM, kMK0, kMK1, kMK2, kMK3, kMK4, kMK5, kMK6, kMK7, kMK8, kMK9, kMK10, kMK11, kMK12, kMK13, kMK14, kMK15, kMK16, kMK17, kMK18, kMK19, kMK20, kMK21, kMK22, kMK23, kMK24, kMK25, kMK26, kMK27, kMK28, kMK29, kMK30, kMK31, kMK32, kMK33, kMK34, kMK35, kMK36, kMK37, kMK38, kMK39, kMK40, kMK41, kMK42, kMK43, kMK44, kMK45, kMK46, kMK47, kMK48, kMK49, kMK50, kMK51, kMK52, kMK53, kMK54, kMK55, kMK56, kMK57, kMK58, kMK59, kMK60, kMK61, kMK62, kMK63, kMK64, kMK65, kMK66, kMK67, kMK68, kMK69, kMK70, kMK71, kMK72, kMK73, kMK74, kMK75, kMK76, kMK77, kMK78, kMK79, kMK80, kMK81, kMK82, kMK83, kMK84, kMK85, kMK86, kMK87, kMK88, kMK89, kMK90, kMK91, kMK92, kMK93, kMK94, kMK95, kMK96, kMK97, kMK98, kMK99, kMK100, kMK101, kMK102, kMK103, kMK104, Pl, h2, d0, c1, c2, c3, e0, e1, e2, h7.1, hz, Vp]
    by_cases g1 : ca s p = true
    · rw [if_pos g1]
      by_cases g2 : P.2.1 s p = true
      · simp only [g2, zps_0, zps_1, zps_2, zps_3, zps_9, Option.bind_some, Option.bind_none, Int.reduceEq, Int.reduceNe, Int.reduceLT, Int.reduceLE, Int.reduceNeg, Int.reduceAdd, Int.reduceSub, Int.reduceMul, reduceIte, if_true, if_false, true_and, and_true, false_and, and_false, or_true, true_or, or_false, false_or, not_true_eq_false, not_false_eq_true, ite_not, z_b0, z_b1, z_b01]
        exact no (by simp [g2]) _
      · simp only [g2, zps_0, zps_1, zps_2, zps_3, zps_9, Option.bind_some, Option.bind_none, Int.reduceEq, Int.reduceNe, Int.reduceLT, Int.reduceLE, Int.reduceNeg, Int.reduceAdd, Int.reduceSub, Int.reduceMul, reduceIte, if_true, if_false, true_and, and_true, false_and, and_false, or_true, true_or, or_false, false_or, not_true_eq_false, not_false_eq_true, ite_not, z_b0, z_b1, z_b01]
        by_cases g3 : va s p ≤ 0
        · rw [if_pos g3]
          refine no (fun z => ?_) _
          rcases hbd with h | h
          · rw [h.2] at z; omega
          · have := z.2; omega
        · rw [if_neg g3]
          have gc : (ca s p && !P.2.1 s p) = true := by rw [Bool.not_eq_true] at g2; simp [g1, g2]
          by_cases g4 : b = -4
          · rw [if_pos g4]
            refine yes ⟨gc, ?_⟩ _
            rcases hbd with h | h
            · rw [h.2]; omega
            · rw [← hI] at h; omega
          · rw [if_neg g4]
            obtain ⟨v1, v2⟩ := Vb g4
            simp only [v1, s269_0, s269_2, s269_3, s269_4, s269_6, s269_7, s269_10, s269_13, s269_14, s269_17, s269_19, s269_20, s269_23, s269_24, s269_25, s269_26, s269_27, s269_28, s269_29, s269_32, s269_33, s269_36, s269_37, s269_38, s269_39, s269_40, s269_41, s269_42, s269_43, s269_44, s269_47, s269_48, s269_49, s269_50, s269_53, s269_56, s269_57, s269_60, s269_61, s269_63, s269_65, s269_68, s269_69, s269_71, s269_74, s269_75, s269_76, s269_77, s269_80, s269_81, s269_82, s269_83, s269_86, s269_89, s269_90, s269_93, s269_94, s269_95, s269_98, s269_101, s269_102, zps_0, zps_1, zps_2, zps_3, zps_9, Option.bind_some, Option.bind_none, Int.reduceEq, Int.reduceNe, Int.reduceLT, Int.reduceLE, Int.reduceNeg, Int.reduceAdd, Int.reduceSub, Int.reduceMul, reduceIte, if_true, if_false, true_and, and_true, false_and, and_false, or_true, true_or, or_false, false_or, not_true_eq_false, not_false_eq_true, ite_not, z_b0, z_b1, z_b01, Bool.false_eq_true, e0]
            by_cases g5 : va s p ≤ va s b
            · rw [if_pos g5]; exact no (fun z => by have := z.2; omega) _
            · rw [if_neg g5]; exact yes ⟨gc, by omega⟩ _
    · rw [if_neg g1]
      exact no (by simp [g1]) _
  · intro ⟨b, l4⟩ ⟨p0, hI⟩
    have d0 : n ≤ n := Int.le_refl _
    dsimp only at hI
    rw [s269_5]
    simp only [s269_0, s269_2, s269_3, s269_4, s269_6, s269_7, s269_10, s269_13, s269_14, s269_17, s269_19, s269_20, s269_23, s269_24, s269_25, s269_26, s269_27, s269_28, s269_29, s269_32, s269_33, s269_36, s269_37, s269_38, s269_39, s269_40, s269_41, s269_42, s269_43, s269_44, s269_47, s269_48, s269_49, s269_50, s269_53, s269_56, s269_57, s269_60, s269_61, s269_63, s269_65, s269_68, s269_69, s269_71, s269_74, s269_75, s269_76, s269_77, s269_80, s269_81, s269_82, s269_83, s269_86, s269_89, s269_90, s269_93, s269_94, s269_95, s269_98, s269_101, s269_102, zps_0, zps_1, zps_2, zps_3, zps_9, Option.bind_some, Option.bind_none, Int.reduceEq, Int.reduceNe, Int.reduceLT, Int.reduceLE, Int.reduceNeg, Int.reduceAdd, Int.reduceSub, Int.reduceMul, reduceIte, if_true, if_false, true_and, and_true, false_and, and_false, or_true, true_or, or_false, false_or, not_true_eq_false, not_false_eq_true, ite_not, z_b0, z_b1, z_b01, rMK0 hM, rMK1 hM, rMK2 hM, rMK3 hM, rMK4 hM, rMK5 hM, rMK6 hM, rMK7 hM, rMK8 hM, rMK9 hM, rMK10 hM, rMK11 hM, rMK12 hM, rMK13 hM, rMK14 hM, rMK15 hM, rMK16 hM, rMK17 hM, rMK18 hM, rMK19 hM, rMK20 hM, rMK21 hM, rMK22 hM, rMK23 hM, rMK24 hM, rMK25 hM, rMK26 hM, rMK27 hM, rMK28 hM, rMK29 hM, rMK30 hM, rMK31 hM, rMK32 hM, rMK33 hM, rMK34 hM, rMK35 hM, rMK36 hM, rMK37 hM, rMK38 hM, rMK39 hM, rMK40 hM, rMK41 hM, rMK42 hM, rMK43 hM, rMK44 hM, rMK45 hM, rMK46 hM, rMK47 hM, rMK48 hM, rMK49 hM, rMK50 hM, rMK51 hM, kMK0, kMK1, kMK2, kMK3, kMK4, kMK5, kMK6, kMK7, kMK8, kMK9, kMK10, kMK11, kMK12, kMK13, kMK14, kMK15, kMK16, kMK17, kMK18, kMK19, kMK20, kMK21, kMK22, kMK23, kMK24, kMK25, kMK26, kMK27, kMK28, kMK29, kMK30, kMK31, kMK32, kMK33, kMK34, kMK35, kMK36, kMK37, kMK38, kMK39, kMK40, kMK41, kMK42, kMK43, kMK44, kMK45, kMK46, kMK47, kMK48, kMK49, kMK50, kMK51, kMK52, kMK53, kMK54, kMK55, kMK56, kMK57, kMK58, kMK59, kMK60, kMK61, kMK62, kMK63, kMK64, kMK65, kMK66, kMK67, kMK68, kMK69, kMK70, kMK71, kMK72, kMK73, kMK74, kMK75, kMK76, kMK77, kMK78, kMK79, kMK80, kMK81, kMK82, kMK83, kMK84, kMK85, kMK86, kMK87, kMK88, kMK89, kMK90, kMK91, kMK92, kMK93, kMK94, kMK95, kMK96, kMK97, kMK98, kMK99, kMK100, kMK101, kMK102, kMK103, kMK104, Pl, h2, d0, hI]
theorem zmem3m {a : Int} (h : a ∉ ([124, 125, 126] : List Int)) : a ≠ 124 ∧ a ≠ 125 ∧ a ≠ 126 := by
  simp only [List.mem_cons, List.not_mem_nil, or_false, not_or] at h
  exact h
/-- one seeker's turn -/
theorem tz_mturn (hM : MK R) (hS : MIn m n nc wt ca pu va) (hC : MS m nc P) (hP : zPI n nc P) {s : Int} (hs : 0 ≤ s ∧ s < nc) (b : Bool) (l3 l4 l5 l6 : zV) :
    ∃ (m' : zM) (k3 k4 k5 k6 : zV), ev 268 134 [(2, 100), (0, if b = true then 1 else 0), (0, s), l3, l4, l5, l6] [] R m = ev 268 134 [(2, 100), (0, if (b || (zst n wt ca pu va P s).2) = true then 1 else 0), (0, s + 1), k3, k4, k5, k6] [] R m' ∧ zfr [124, 125, 126] m m' ∧ MS m' nc (zst n wt ca pu va P s).1 := by
  have hn := hS.2.1
  have hN := MV_n hS.1
  have hnc := hS.2.2.1
  have h20 := hS.2.2.2.1
  have hw := (hS.2.2.2.2 s hs.1 hs.2).2.2.2.1
  have c1 : 0 ≤ s ∧ s < 20 := by omega
  have Se := tz_mseeks (R := R) (m := m) hM c1
  have Ak := tz_masks (R := R) hM hS hC hs
  have Bd := fun q p hq hp => tz_mbid (R := R) (s := q) (p := p) hM hS hq hp
  rw [← hw] at Se
  have h125 := hC.1 s hs.1 hs.2
  have d0 : ¬ nc ≤ s := by omega
  have s1 : zw (s + 1) = s + 1 := zw_i (by omega) (by omega)
  have hbb := zbst_ok (n := n) (ca := ca) (va := va) (P := P) (s := s)
  have stay : ∀ q : Prop, ¬ q → q = (wt s = true ∧ P.1 s = -4 ∧ 0 ≤ zbst n ca va P s) → ∀ k3 k4 k5 k6 : zV, ∀ X : Option zR, X = ev 268 134 [(2, 100), (0, if b = true then 1 else 0), (0, s + 1), k3, k4, k5, k6] [] R m → ∃ (m' : zM) (k3 k4 k5 k6 : zV), X = ev 268 134 [(2, 100), (0, if (b || (zst n wt ca pu va P s).2) = true then 1 else 0), (0, s + 1), k3, k4, k5, k6] [] R m' ∧ zfr [124, 125, 126] m m' ∧ MS m' nc (zst n wt ca pu va P s).1 := by
    intro q hq e k3 k4 k5 k6 X hX
    rw [e] at hq
    unfold zst
    rw [if_neg hq]
    refine ⟨m, k3, k4, k5, k6, ?_, zfr_rf _ _, hC⟩
    rw [hX]
    simp
  rw [s268_134]
  simp only [s268_0, s268_1, s268_3, s268_4, s268_7, s268_8, s268_10, s268_11, s268_14, s268_17, s268_18, s268_21, s268_23, s268_24, s268_25, s268_26, s268_27, s268_28, s268_29, s268_30, s268_31, s268_34, s268_37, s268_38, s268_39, s268_42, s268_44, s268_45, s268_46, s268_47, s268_48, s268_49, s268_50, s268_51, s268_52, s268_55, s268_58, s268_59, s268_62, s268_65, s268_68, s268_71, s268_72, s268_74, s268_76, s268_79, s268_80, s268_83, s268_84, s268_86, s268_87, s268_90, s268_93, s268_94, s268_96, s268_97, s268_100, s268_103, s268_104, s268_107, s268_108, s268_110, s268_111, s268_112, s268_115, s268_116, s268_117, s268_118, s268_121, s268_124, s268_125, s268_127, s268_130, s268_131, s268_132, s268_133, s268_135, s268_136, s268_139, s268_142, s268_143, s268_144, s268_147, s268_150, s268_151, s268_154, s268_155, s268_156, s268_158, s268_161, s268_162, s268_163, s268_166, s268_169, s268_171, s268_172, s268_173, s268_175, s268_178, s268_179, s268_180, s268_181, s268_184, s268_185, s268_186, s268_188, s268_190, s268_192, s268_195, s268_196, s268_197, s268_198, s268_201, s268_202, s268_204, s268_205, s268_208, s268_211, s268_212, s268_213, s268_214, s268_217, s268_218, s268_220, s268_221, s268_224, s268_227, s268_228, s268_230, s268_233, s268_234, s268_237, s268_238, s268_240, s268_242, s268_245, s268_247, s268_250, s268_251, s268_253, s268_255, s268_258, s268_259, s268_262, s268_263, s268_264, s268_265, s268_266, s268_269, s268_270, s268_271, s268_272, s268_274, s268_276, s268_279, s268_280, s268_283, s268_285, s268_287, s268_290, s268_292, s268_294, s268_297, s268_299, s268_302, s268_303, s268_306, s268_308, s268_309, s268_310, s268_311, s268_314, s268_316, s268_317, s268_318, s268_319, s268_320, s268_321, s268_322, s268_323, s268_326, s268_329, s268_332, zps_0, zps_1, zps_2, zps_3, zps_9, Option.bind_some, Option.bind_none, Int.reduceEq, Int.reduceNe, Int.reduceLT, Int.reduceLE, Int.reduceNeg, Int.reduceAdd, Int.reduceSub, Int.reduceMul, reduceIte, if_true, if_false, true_and, and_true, false_and, and_false, or_true, true_or, or_false, false_or, not_true_eq_false, not_false_eq_true, ite_not, z_b0, z_b1, z_b01, rMK0 hM, rMK1 hM, rMK2 hM, rMK3 hM, rMK4 hM, rMK5 hM, rMK6 hM, rMK7 hM, rMK8 hM, rMK9 hM, rMK10 hM, rMK11 hM, rMK12 hM, rMK13 hM, rMK14 hM, rMK15 hM, rMK16 hM, rMK17 hM, rMK18 hM, rMK19 hM, rMK20 hM, rMK21 hM, rMK22 hM, rMK23 hM, rMK24 hM, rMK25 hM, rMK26 hM, rMK27 hM, rMK28 hM, rMK29 hM, rMK30 hM, rMK31 hM, rMK32 hM, rMK33 hM, rMK34 hM, rMK35 hM, rMK36 hM, rMK37 hM, rMK38 hM, rMK39 hM, rMK40 hM, rMK41 hM, rMK42 hM, rMK43 hM, rMK44 hM, rMK45 hM, rMK46 hM, rMK47 hM, rMK48 hM, rMK49 hM, rMK50 hM, rMK51 hM, kMK0, kMK1, kMK2, kMK3, kMK4, kMK5, kMK6, kMK7, kMK8, kMK9, kMK10, kMK11, kMK12, kMK13, kMK14, kMK15, kMK16, kMK17, kMK18, kMK19, kMK20, kMK21, kMK22, kMK23, kMK24, kMK25, kMK26, kMK27, kMK28, kMK29, kMK30, kMK31, kMK32, kMK33, kMK34, kMK35, kMK36, kMK37, kMK38, kMK39, kMK40, kMK41, kMK42, kMK43, kMK44, kMK45, kMK46, kMK47, kMK48, kMK49, kMK50, kMK51, kMK52, kMK53, kMK54, kMK55, kMK56, kMK57, kMK58, kMK59, kMK60, kMK61, kMK62, kMK63, kMK64, kMK65, kMK66, kMK67, kMK68, kMK69, kMK70, kMK71, kMK72, kMK73, kMK74, kMK75, kMK76, kMK77, kMK78, kMK79, kMK80, kMK81, kMK82, kMK83, kMK84, kMK85, kMK86, kMK87, kMK88, kMK89, kMK90, kMK91, kMK92, kMK93, kMK94, kMK95, kMK96, kMK97, kMK98, kMK99, kMK100, kMK101, kMK102, kMK103, kMK104, hnc, d0, c1, Se, h125, Ak, s1]
  by_cases g1 : wt s = true
  · rw [if_pos g1]
    by_cases g2 : P.1 s = -4
    · rw [if_pos g2]
      by_cases g3 : zbst n ca va P s = -4
      · rw [if_pos g3]
        exact stay _ (fun z => by have := z.2.2; omega) rfl _ _ _ _ _ rfl
      · have hq : 0 ≤ zbst n ca va P s := by
          have := zbp_bd (fun p => ca s p && !P.2.1 s p) (va s) n.toNat
          unfold zbst at g3 ⊢
          omega
        have hbo := hbb hq
        have ez : zst n wt ca pu va P s = (zst1 pu va P s (zbst n ca va P s), true) := by unfold zst; rw [if_pos ⟨g1, g2, hq⟩]
        rw [if_neg g3, ez]
        clear stay ez hbb Ak
        generalize zbst n ca va P s = p at *
        have hp2 := hP.2 p
        have c2 : 0 ≤ p ∧ p < 64 := by omega
        have h124 := hC.2.2 p c2.1 c2.2
        simp only [c2, h124, Bool.or_true, zps_0, zps_1, zps_2, zps_3, zps_9, Option.bind_some, Option.bind_none, Int.reduceEq, Int.reduceNe, Int.reduceLT, Int.reduceLE, Int.reduceNeg, Int.reduceAdd, Int.reduceSub, Int.reduceMul, reduceIte, if_true, if_false, true_and, and_true, false_and, and_false, or_true, true_or, or_false, false_or, not_true_eq_false, not_false_eq_true, ite_not, z_b0, z_b1, z_b01]
        by_cases g4 : P.2.2 p = -4
        · have hz : zwin pu va P s p = true := by unfold zwin; rw [decide_eq_true_eq]; exact Or.inl g4
          rw [if_pos g4]
          refine ⟨zpr (zpr m 124 (zrw (m 124) p s)) 125 (zrw (m 125) s p), _, _, _, _, by simp (disch := decide) only [zup_zpr, zpr_at, zpr_zpr, zrw_at, zpr_ne]; rw [if_pos g4], ?_, ?_⟩
          · intro a ha
            obtain ⟨a1, a2, a3⟩ := zmem3m ha
            rw [zpr_ne a2, zpr_ne a1]
          · unfold zst1
            rw [if_pos hz, g4]
            refine ⟨fun q q0 q1 => ?_, fun q r q0 q1 r0 r1 => ?_, fun r r0 r1 => ?_⟩
            · rw [zpr_at, zrw_if, hC.1 q q0 q1]
              dsimp only
              rw [if_neg (show ¬ q = -4 by omega)]
            · rw [zpr_ne (by decide), zpr_ne (by decide), hC.2.1 q r q0 q1 r0 r1]
              have : ¬ q = -4 := by omega
              simp [this]
            · rw [zpr_ne (by decide), zpr_at, zrw_if, hC.2.2 r r0 r1]
        · rw [if_neg g4]
          have ho : 0 ≤ P.2.2 p ∧ P.2.2 p < nc := by omega
          have hho : P.1 (P.2.2 p) = p := by rcases hp2 with h | ⟨-, -, -, -, h⟩ <;> omega
          have hne : P.2.2 p ≠ s := fun e => by rw [e, g2] at hho; omega
          have c3 : 0 ≤ P.2.2 p ∧ P.2.2 p < 20 := by omega
          have b1 := Bd s p hs ⟨hq, hbo.1⟩
          have b2 := Bd (P.2.2 p) p ho ⟨hq, hbo.1⟩
          simp only [b1, b2, s268_0, s268_1, s268_3, s268_4, s268_7, s268_8, s268_10, s268_11, s268_14, s268_17, s268_18, s268_21, s268_23, s268_24, s268_25, s268_26, s268_27, s268_28, s268_29, s268_30, s268_31, s268_34, s268_37, s268_38, s268_39, s268_42, s268_44, s268_45, s268_46, s268_47, s268_48, s268_49, s268_50, s268_51, s268_52, s268_55, s268_58, s268_59, s268_62, s268_65, s268_68, s268_71, s268_72, s268_74, s268_76, s268_79, s268_80, s268_83, s268_84, s268_86, s268_87, s268_90, s268_93, s268_94, s268_96, s268_97, s268_100, s268_103, s268_104, s268_107, s268_108, s268_110, s268_111, s268_112, s268_115, s268_116, s268_117, s268_118, s268_121, s268_124, s268_125, s268_127, s268_130, s268_131, s268_132, s268_133, s268_135, s268_136, s268_139, s268_142, s268_143, s268_144, s268_147, s268_150, s268_151, s268_154, s268_155, s268_156, s268_158, s268_161, s268_162, s268_163, s268_166, s268_169, s268_171, s268_172, s268_173, s268_175, s268_178, s268_179, s268_180, s268_181, s268_184, s268_185, s268_186, s268_188, s268_190, s268_192, s268_195, s268_196, s268_197, s268_198, s268_201, s268_202, s268_204, s268_205, s268_208, s268_211, s268_212, s268_213, s268_214, s268_217, s268_218, s268_220, s268_221, s268_224, s268_227, s268_228, s268_230, s268_233, s268_234, s268_237, s268_238, s268_240, s268_242, s268_245, s268_247, s268_250, s268_251, s268_253, s268_255, s268_258, s268_259, s268_262, s268_263, s268_264, s268_265, s268_266, s268_269, s268_270, s268_271, s268_272, s268_274, s268_276, s268_279, s268_280, s268_283, s268_285, s268_287, s268_290, s268_292, s268_294, s268_297, s268_299, s268_302, s268_303, s268_306, s268_308, s268_309, s268_310, s268_311, s268_314, s268_316, s268_317, s268_318, s268_319, s268_320, s268_321, s268_322, s268_323, s268_326, s268_329, s268_332, zps_0, zps_1, zps_2, zps_3, zps_9, Option.bind_some, Option.bind_none, Int.reduceEq, Int.reduceNe, Int.reduceLT, Int.reduceLE, Int.reduceNeg, Int.reduceAdd, Int.reduceSub, Int.reduceMul, reduceIte, if_true, if_false, true_and, and_true, false_and, and_false, or_true, true_or, or_false, false_or, not_true_eq_false, not_false_eq_true, ite_not, z_b0, z_b1, z_b01, rMK0 hM, rMK1 hM, rMK2 hM, rMK3 hM, rMK4 hM, rMK5 hM, rMK6 hM, rMK7 hM, rMK8 hM, rMK9 hM, rMK10 hM, rMK11 hM, rMK12 hM, rMK13 hM, rMK14 hM, rMK15 hM, rMK16 hM, rMK17 hM, rMK18 hM, rMK19 hM, rMK20 hM, rMK21 hM, rMK22 hM, rMK23 hM, rMK24 hM, rMK25 hM, rMK26 hM, rMK27 hM, rMK28 hM, rMK29 hM, rMK30 hM, rMK31 hM, rMK32 hM, rMK33 hM, rMK34 hM, rMK35 hM, rMK36 hM, rMK37 hM, rMK38 hM, rMK39 hM, rMK40 hM, rMK41 hM, rMK42 hM, rMK43 hM, rMK44 hM, rMK45 hM, rMK46 hM, rMK47 hM, rMK48 hM, rMK49 hM, rMK50 hM, rMK51 hM, kMK0, kMK1, kMK2, kMK3, kMK4, kMK5, kMK6, kMK7, kMK8, kMK9, kMK10, kMK11, kMK12, kMK13, kMK14, kMK15, kMK16, kMK17, kMK18, kMK19, kMK20, kMK21, kMK22, kMK23, kMK24, kMK25, kMK26, kMK27, kMK28, kMK29, kMK30, kMK31, kMK32, kMK33, kMK34, kMK35, kMK36, kMK37, kMK38, kMK39, kMK40, kMK41, kMK42, kMK43, kMK44, kMK45, kMK46, kMK47, kMK48, kMK49, kMK50, kMK51, kMK52, kMK53, kMK54, kMK55, kMK56, kMK57, kMK58, kMK59, kMK60, kMK61, kMK62, kMK63, kMK64, kMK65, kMK66, kMK67, kMK68, kMK69, kMK70, kMK71, kMK72, kMK73, kMK74, kMK75, kMK76, kMK77, kMK78, kMK79, kMK80, kMK81, kMK82, kMK83, kMK84, kMK85, kMK86, kMK87, kMK88, kMK89, kMK90, kMK91, kMK92, kMK93, kMK94, kMK95, kMK96, kMK97, kMK98, kMK99, kMK100, kMK101, kMK102, kMK103, kMK104]
          clear Bd b1 b2
          have win : zwin pu va P s p = true → ∃ (m' : zM) (k3 k4 k5 k6 : zV), ev 268 134 [(2, 100), (0, 1), (0, s + 1), (0, p), (0, P.2.2 p), (0, 1), (0, P.2.2 p)] [] R (zpr (zpr (zpr m 124 (zrw (m 124) p s)) 125 (zrw (zrw (m 125) s p) (P.2.2 p) (-4))) 126 (zrw (m 126) (P.2.2 p) (zset (m 126 (P.2.2 p)) p))) = ev 268 134 [(2, 100), (0, 1), (0, s + 1), k3, k4, k5, k6] [] R m' ∧ zfr [124, 125, 126] m m' ∧ MS m' nc (zst1 pu va P s p) := by
            intro hz
            refine ⟨_, _, _, _, _, rfl, ?_, ?_⟩
            · intro a ha
              obtain ⟨a1, a2, a3⟩ := zmem3m ha
              rw [zpr_ne a3, zpr_ne a2, zpr_ne a1]
            · unfold zst1
              rw [if_pos hz]
              refine ⟨fun q q0 q1 => ?_, fun q r q0 q1 r0 r1 => ?_, fun r r0 r1 => ?_⟩
              · rw [zpr_ne (by decide), zpr_at, zrw_if, zrw_if, hC.1 q q0 q1]
                dsimp only
                by_cases e1 : q = s
                · rw [if_pos e1, if_pos e1, if_neg (fun z => hne (z.symm.trans e1))]
                · rw [if_neg e1, if_neg e1]
              · rw [zpr_at, zrw_if]
                dsimp only
                by_cases e : q = P.2.2 p
                · rw [if_pos e, e, zbt_set c2 ⟨r0, r1⟩, hC.2.1 _ r ho.1 ho.2 r0 r1]
                  simp
                · rw [if_neg e, hC.2.1 q r q0 q1 r0 r1]
                  simp [e]
              · rw [zpr_ne (by decide), zpr_ne (by decide), zpr_at, zrw_if, hC.2.2 r r0 r1]
          have lose : ¬ zwin pu va P s p = true → ∃ (m' : zM) (k3 k4 k5 k6 : zV), ev 268 134 [(2, 100), (0, 1), (0, s + 1), (0, p), (0, P.2.2 p), (0, 0), (0, s)] [] R (zpr (zpr m 125 (zrw (m 125) s (m 125 s))) 126 (zrw (m 126) s (zset (m 126 s) p))) = ev 268 134 [(2, 100), (0, 1), (0, s + 1), k3, k4, k5, k6] [] R m' ∧ zfr [124, 125, 126] m m' ∧ MS m' nc (zst1 pu va P s p) := by
            intro hz
            refine ⟨_, _, _, _, _, rfl, ?_, ?_⟩
            · intro a ha
              obtain ⟨a1, a2, a3⟩ := zmem3m ha
              rw [zpr_ne a3, zpr_ne a2]
            · unfold zst1
              rw [if_neg hz]
              refine ⟨fun q q0 q1 => ?_, fun q r q0 q1 r0 r1 => ?_, fun r r0 r1 => ?_⟩
              · rw [zpr_ne (by decide), zpr_at, zrw_if]
                split
                next e => rw [e]; exact h125
                next e => exact hC.1 q q0 q1
              · rw [zpr_at, zrw_if]
                dsimp only
                by_cases e : q = s
                · rw [if_pos e, e, zbt_set c2 ⟨r0, r1⟩, hC.2.1 _ r hs.1 hs.2 r0 r1]
                  simp
                · rw [if_neg e, hC.2.1 q r q0 q1 r0 r1]
                  simp [e]
              · rw [zpr_ne (by decide), zpr_ne (by decide), hC.2.2 r r0 r1]
          have es : ∀ x : Int, z64 (fun x1 x2 => x1 ||| x2) x (z6s (fun x y => x <<< (y.toInt64 &&& 63)) 1 p) = zset x p := fun _ => rfl
          have hns : ¬ s = -4 := by omega
          simp (disch := decide) only [c1, c2, c3, s268_0, s268_1, s268_3, s268_4, s268_7, s268_8, s268_10, s268_11, s268_14, s268_17, s268_18, s268_21, s268_23, s268_24, s268_25, s268_26, s268_27, s268_28, s268_29, s268_30, s268_31, s268_34, s268_37, s268_38, s268_39, s268_42, s268_44, s268_45, s268_46, s268_47, s268_48, s268_49, s268_50, s268_51, s268_52, s268_55, s268_58, s268_59, s268_62, s268_65, s268_68, s268_71, s268_72, s268_74, s268_76, s268_79, s268_80, s268_83, s268_84, s268_86, s268_87, s268_90, s268_93, s268_94, s268_96, s268_97, s268_100, s268_103, s268_104, s268_107, s268_108, s268_110, s268_111, s268_112, s268_115, s268_116, s268_117, s268_118, s268_121, s268_124, s268_125, s268_127, s268_130, s268_131, s268_132, s268_133, s268_135, s268_136, s268_139, s268_142, s268_143, s268_144, s268_147, s268_150, s268_151, s268_154, s268_155, s268_156, s268_158, s268_161, s268_162, s268_163, s268_166, s268_169, s268_171, s268_172, s268_173, s268_175, s268_178, s268_179, s268_180, s268_181, s268_184, s268_185, s268_186, s268_188, s268_190, s268_192, s268_195, s268_196, s268_197, s268_198, s268_201, s268_202, s268_204, s268_205, s268_208, s268_211, s268_212, s268_213, s268_214, s268_217, s268_218, s268_220, s268_221, s268_224, s268_227, s268_228, s268_230, s268_233, s268_234, s268_237, s268_238, s268_240, s268_242, s268_245, s268_247, s268_250, s268_251, s268_253, s268_255, s268_258, s268_259, s268_262, s268_263, s268_264, s268_265, s268_266, s268_269, s268_270, s268_271, s268_272, s268_274, s268_276, s268_279, s268_280, s268_283, s268_285, s268_287, s268_290, s268_292, s268_294, s268_297, s268_299, s268_302, s268_303, s268_306, s268_308, s268_309, s268_310, s268_311, s268_314, s268_316, s268_317, s268_318, s268_319, s268_320, s268_321, s268_322, s268_323, s268_326, s268_329, s268_332, zps_0, zps_1, zps_2, zps_3, zps_9, Option.bind_some, Option.bind_none, Int.reduceEq, Int.reduceNe, Int.reduceLT, Int.reduceLE, Int.reduceNeg, Int.reduceAdd, Int.reduceSub, Int.reduceMul, reduceIte, if_true, if_false, true_and, and_true, false_and, and_false, or_true, true_or, or_false, false_or, not_true_eq_false, not_false_eq_true, ite_not, z_b0, z_b1, z_b01, rMK0 hM, rMK1 hM, rMK2 hM, rMK3 hM, rMK4 hM, rMK5 hM, rMK6 hM, rMK7 hM, rMK8 hM, rMK9 hM, rMK10 hM, rMK11 hM, rMK12 hM, rMK13 hM, rMK14 hM, rMK15 hM, rMK16 hM, rMK17 hM, rMK18 hM, rMK19 hM, rMK20 hM, rMK21 hM, rMK22 hM, rMK23 hM, rMK24 hM, rMK25 hM, rMK26 hM, rMK27 hM, rMK28 hM, rMK29 hM, rMK30 hM, rMK31 hM, rMK32 hM, rMK33 hM, rMK34 hM, rMK35 hM, rMK36 hM, rMK37 hM, rMK38 hM, rMK39 hM, rMK40 hM, rMK41 hM, rMK42 hM, rMK43 hM, rMK44 hM, rMK45 hM, rMK46 hM, rMK47 hM, rMK48 hM, rMK49 hM, rMK50 hM, rMK51 hM, kMK0, kMK1, kMK2, kMK3, kMK4, kMK5, kMK6, kMK7, kMK8, kMK9, kMK10, kMK11, kMK12, kMK13, kMK14, kMK15, kMK16, kMK17, kMK18, kMK19, kMK20, kMK21, kMK22, kMK23, kMK24, kMK25, kMK26, kMK27, kMK28, kMK29, kMK30, kMK31, kMK32, kMK33, kMK34, kMK35, kMK36, kMK37, kMK38, kMK39, kMK40, kMK41, kMK42, kMK43, kMK44, kMK45, kMK46, kMK47, kMK48, kMK49, kMK50, kMK51, kMK52, kMK53, kMK54, kMK55, kMK56, kMK57, kMK58, kMK59, kMK60, kMK61, kMK62, kMK63, kMK64, kMK65, kMK66, kMK67, kMK68, kMK69, kMK70, kMK71, kMK72, kMK73, kMK74, kMK75, kMK76, kMK77, kMK78, kMK79, kMK80, kMK81, kMK82, kMK83, kMK84, kMK85, kMK86, kMK87, kMK88, kMK89, kMK90, kMK91, kMK92, kMK93, kMK94, kMK95, kMK96, kMK97, kMK98, kMK99, kMK100, kMK101, kMK102, kMK103, kMK104, zup_zpr, zpr_at, zpr_zpr, zrw_at, zpr_ne, s1, es, hns, g4]
          by_cases g5 : zbid pu va (P.2.2 p) p < zbid pu va s p
          · rw [if_pos g5]
            exact win (by unfold zwin; rw [decide_eq_true_eq]; exact Or.inr (Or.inl g5))
          · rw [if_neg g5]
            by_cases g6 : zbid pu va s p = zbid pu va (P.2.2 p) p
            · rw [if_pos g6]
              by_cases g7 : s < P.2.2 p
              · rw [if_neg (by omega)]
                exact win (by unfold zwin; rw [decide_eq_true_eq]; exact Or.inr (Or.inr ⟨g6, g7⟩))
              · rw [if_pos (by omega)]
                exact lose (by unfold zwin; rw [decide_eq_true_eq]; omega)
            · rw [if_neg g6]
              exact lose (by unfold zwin; rw [decide_eq_true_eq]; omega)
    · rw [if_neg g2]
      exact stay _ (fun z => g2 z.2.1) rfl _ _ _ _ _ rfl
  · rw [if_neg g1]
    exact stay _ (fun z => g1 z.1) rfl _ _ _ _ _ rfl
end MSETTLE
