/-! the model: worths, MAY, seekers' small methods -/
theorem zcap {ln : Int} {L : Int → Int} (hW : LW ln L) (u y x : Int) : (zlmt ln.toNat L 3 u y = -4 ∨ x < zlmt ln.toNat L 3 u y) ↔ ((znum L 3 u y ln.toNat).1 < 0 ∨ x < (znum L 3 u y ln.toNat).1) := by
  have h0 := hW.1
  unfold zlmt
  rcases znum_max (L := L) (a := 3) (u := u) (y := y) ln.toNat (fun k h1 h2 => (hW.2.1 k h1 (by omega)).2.1.1) with ⟨e, -⟩ | ⟨k, k0, k1, hc, e, -⟩
  · rw [e]; simp
  · have := hW.2.1 k k0 (by omega)
    have h3 := this.2.2.2.2.1 (by rw [hc.1]; omega)
    have h4 := this.2.1
    rw [e, if_neg (by dsimp only; omega)]
    dsimp only
    omega
theorem zlmt_num {ln : Int} {L : Int → Int} (hW : LW ln L) {a : Int} (ha : 2 ≤ a) (u y : Int) : (zlmt ln.toNat L a u y = -4 ∧ (znum L a u y ln.toNat).1 = -1) ∨ (zlmt ln.toNat L a u y = (znum L a u y ln.toNat).1 ∧ 0 ≤ (znum L a u y ln.toNat).1) := by
  have h0 := hW.1
  unfold zlmt
  rcases znum_max (L := L) (a := a) (u := u) (y := y) ln.toNat (fun k h1 h2 => (hW.2.1 k h1 (by omega)).2.1.1) with ⟨e, -⟩ | ⟨k, k0, k1, hc, e, -⟩
  · rw [e]; exact Or.inl ⟨rfl, rfl⟩
  · have := hW.2.1 k k0 (by omega)
    have h3 := this.2.2.2.2.1 (by rw [hc.1]; omega)
    have h4 := this.2.1
    rw [e, if_neg (by dsimp only; omega)]
    exact Or.inr ⟨rfl, h3.1⟩
section MODEL3
variable {R m : zM}
theorem tz_mworth (hM : MK R) (hV : MV m) {ln : Int} {L : Int → Int} (hL : ML m ln L) {p : Int} (hp : 0 ≤ p ∧ p < mN m) (u y : Int) : ev 254 0 [(2, 100), (0, p), (0, u), (0, y), (9, 0), (9, 0)] [] R m = some ((0, zworth (mN m) (m 100 0) ln y (m 101) (m 103) L p u), R, m) := by
  have A := fun k hk => tz_madds (R := R) (m := m) (k := k) hM hV hL hk hp u y
  have hN := MV_n hV
  obtain ⟨hn, hW, hR⟩ := hL
  have h0 := hW.1
  have bd := fun k hk => zadds_bd (n := mN m) (w := m 100 0) (y := y) (G := m 101) (U := m 103) (p := p) (u := u) (k := k) ⟨by omega, hN.2⟩ hW hk
  simp only [s254_0, s254_2, s254_4, s254_5, s254_9, s254_10, s254_13, s254_16, s254_18, s254_19, s254_21, s254_22, s254_23, s254_24, s254_27, s254_28, s254_30, s254_33, s254_36, s254_38, zps_0, zps_1, zps_2, zps_3, zps_9, Option.bind_some, Option.bind_none, Int.reduceEq, Int.reduceNe, Int.reduceLT, Int.reduceLE, Int.reduceNeg, Int.reduceAdd, Int.reduceSub, Int.reduceMul, reduceIte, if_true, if_false, true_and, and_true, false_and, and_false, or_true, true_or, or_false, false_or, not_true_eq_false, not_false_eq_true, ite_not, z_b0, z_b1, z_b01]
  unfold zworth
  generalize hF : (fun k => zadds (mN m) (m 100 0) (m 101) (m 103) L y p u k) = F at *
  have hF2 : ∀ k, zadds (mN m) (m 100 0) (m 101) (m 103) L y p u k = F k := fun k => by rw [← hF]
  simp only [hF2] at A bd
  have bs : ∀ k : Int, 0 ≤ k → k ≤ ln → -76032 ≤ zsum F k.toNat ∧ zsum F k.toNat ≤ 76032 := by
    intro k h1 h2
    have := zsum_le (f := F) (N := ln.toNat) (lo := -6336) (hi := 6336) (fun j h3 h4 => bd j ⟨h3, by omega⟩) (k := k.toNat) (by omega)
    omega
  refine zloop (fun r => r = some ((0, 10 + zsum F ln.toNat), R, m)) (fun k (s : Int) => ev 254 7 [(2, 100), (0, p), (0, u), (0, y), (0, s), (0, k)] [] R m) ln (fun k s => 0 ≤ k ∧ s = 10 + zsum F k.toNat) ?_ ?_ 0 10 (by omega) ⟨by omega, rfl⟩
  · intro k s hk ⟨h1, hI⟩ ih
    have b1 := bd k ⟨h1, hk⟩
    have b2 := bs k h1 (by omega)
    have d0 : ¬ ln ≤ k := by omega
    have e1 : zw (k + 1) = k + 1 := zw_i (by omega) (by omega)
    have e2 : zw (s + F k) = s + F k := zw_i (by omega) (by omega)
    rw [s254_7]
    simp only [s254_0, s254_2, s254_4, s254_5, s254_9, s254_10, s254_13, s254_16, s254_18, s254_19, s254_21, s254_22, s254_23, s254_24, s254_27, s254_28, s254_30, s254_33, s254_36, s254_38, zps_0, zps_1, zps_2, zps_3, zps_9, Option.bind_some, Option.bind_none, Int.reduceEq, Int.reduceNe, Int.reduceLT, Int.reduceLE, Int.reduceNeg, Int.reduceAdd, Int.reduceSub, Int.reduceMul, reduceIte, if_true, if_false, true_and, and_true, false_and, and_false, or_true, true_or, or_false, false_or, not_true_eq_false, not_false_eq_true, ite_not, z_b0, z_b1, z_b01, rMK0 hM, rMK1 hM, rMK2 hM, rMK3 hM, rMK4 hM, rMK5 hM, rMK6 hM, rMK7 hM, rMK8 hM, rMK9 hM, rMK10 hM, rMK11 hM, rMK12 hM, rMK13 hM, rMK14 hM, rMK15 hM, rMK16 hM, rMK17 hM, rMK18 hM, rMK19 hM, rMK20 hM, rMK21 hM, rMK22 hM, rMK23 hM, rMK24 hM, rMK25 hM, rMK26 hM, rMK27 hM, rMK28 hM, rMK29 hM, rMK30 hM, rMK31 hM, rMK32 hM, rMK33 hM, rMK34 hM, rMK35 hM, rMK36 hM, rMK37 hM, rMK38 hM, rMK39 hM, rMK40 hM, rMK41 hM, rMK42 hM, rMK43 hM, rMK44 hM, rMK45 hM, rMK46 hM, rMK47 hM, rMK48 hM, rMK49 hM, rMK50 hM, rMK51 hM, kMK0, kMK1, kMK2, kMK3, kMK4, kMK5, kMK6, kMK7, kMK8, kMK9, kMK10, kMK11, kMK12, kMK13, kMK14, kMK15, kMK16, kMK17, kMK18, kMK19, kMK20, kMK21, kMK22, kMK23, kMK24, kMK25, kMK26, kMK27, kMK28, kMK29, kMK30, kMK31, kMK32, kMK33, kMK34, kMK35, kMK36, kMK37, kMK38, kMK39, kMK40, kMK41, kMK42, kMK43, kMK44, kMK45, kMK46, kMK47, kMK48, kMK49, kMK50, kMK51, kMK52, kMK53, kMK54, kMK55, kMK56, kMK57, kMK58, kMK59, kMK60, kMK61, kMK62, kMK63, kMK64, kMK65, kMK66, kMK67, kMK68, kMK69, kMK70, kMK71, kMK72, kMK73, kMK74, kMK75, kMK76, kMK77, kMK78, kMK79, kMK80, kMK81, kMK82, kMK83, kMK84, kMK85, kMK86, kMK87, kMK88, kMK89, kMK90, kMK91, kMK92, kMK93, kMK94, kMK95, kMK96, kMK97, kMK98, kMK99, kMK100, kMK101, kMK102, kMK103, kMK104, hn, d0, A k ⟨h1, hk⟩, e1, e2]
    exact ih _ ⟨by omega, by rw [zsum_step _ h1]; omega⟩
  · intro s ⟨h1, hI⟩
    have d0 : ln ≤ ln := Int.le_refl _
    rw [s254_7]
    simp only [s254_0, s254_2, s254_4, s254_5, s254_9, s254_10, s254_13, s254_16, s254_18, s254_19, s254_21, s254_22, s254_23, s254_24, s254_27, s254_28, s254_30, s254_33, s254_36, s254_38, zps_0, zps_1, zps_2, zps_3, zps_9, Option.bind_some, Option.bind_none, Int.reduceEq, Int.reduceNe, Int.reduceLT, Int.reduceLE, Int.reduceNeg, Int.reduceAdd, Int.reduceSub, Int.reduceMul, reduceIte, if_true, if_false, true_and, and_true, false_and, and_false, or_true, true_or, or_false, false_or, not_true_eq_false, not_false_eq_true, ite_not, z_b0, z_b1, z_b01, rMK0 hM, rMK1 hM, rMK2 hM, rMK3 hM, rMK4 hM, rMK5 hM, rMK6 hM, rMK7 hM, rMK8 hM, rMK9 hM, rMK10 hM, rMK11 hM, rMK12 hM, rMK13 hM, rMK14 hM, rMK15 hM, rMK16 hM, rMK17 hM, rMK18 hM, rMK19 hM, rMK20 hM, rMK21 hM, rMK22 hM, rMK23 hM, rMK24 hM, rMK25 hM, rMK26 hM, rMK27 hM, rMK28 hM, rMK29 hM, rMK30 hM, rMK31 hM, rMK32 hM, rMK33 hM, rMK34 hM, rMK35 hM, rMK36 hM, rMK37 hM, rMK38 hM, rMK39 hM, rMK40 hM, rMK41 hM, rMK42 hM, rMK43 hM, rMK44 hM, rMK45 hM, rMK46 hM, rMK47 hM, rMK48 hM, rMK49 hM, rMK50 hM, rMK51 hM, kMK0, kMK1, kMK2, kMK3, kMK4, kMK5, kMK6, kMK7, kMK8, kMK9, kMK10, kMK11, kMK12, kMK13, kMK14, kMK15, kMK16, kMK17, kMK18, kMK19, kMK20, kMK21, kMK22, kMK23, kMK24, kMK25, kMK26, kMK27, kMK28, kMK29, kMK30, kMK31, kMK32, kMK33, kMK34, kMK35, kMK36, kMK37, kMK38, kMK39, kMK40, kMK41, kMK42, kMK43, kMK44, kMK45, kMK46, kMK47, kMK48, kMK49, kMK50, kMK51, kMK52, kMK53, kMK54, kMK55, kMK56, kMK57, kMK58, kMK59, kMK60, kMK61, kMK62, kMK63, kMK64, kMK65, kMK66, kMK67, kMK68, kMK69, kMK70, kMK71, kMK72, kMK73, kMK74, kMK75, kMK76, kMK77, kMK78, kMK79, kMK80, kMK81, kMK82, kMK83, kMK84, kMK85, kMK86, kMK87, kMK88, kMK89, kMK90, kMK91, kMK92, kMK93, kMK94, kMK95, kMK96, kMK97, kMK98, kMK99, kMK100, kMK101, kMK102, kMK103, kMK104, hn, d0, hI]
theorem tz_muses (hM : MK R) (hV : MV m) (u : Int) : ev 261 0 [(2, 100), (0, u), (9, 0), (9, 0)] [] R m = some ((0, zuses (mN m) (m 103) u), R, m) := by
  have Pl := tz_plots (R := R) hM hV
  have hN := MV_n hV
  simp only [s261_0, s261_1, s261_2, s261_3, s261_5, s261_6, s261_9, s261_12, s261_13, s261_14, s261_17, s261_18, s261_19, s261_20, s261_23, s261_24, s261_27, s261_28, s261_29, s261_30, s261_33, s261_36, s261_37, zps_0, zps_1, zps_2, zps_3, zps_9, Option.bind_some, Option.bind_none, Int.reduceEq, Int.reduceNe, Int.reduceLT, Int.reduceLE, Int.reduceNeg, Int.reduceAdd, Int.reduceSub, Int.reduceMul, reduceIte, if_true, if_false, true_and, and_true, false_and, and_false, or_true, true_or, or_false, false_or, not_true_eq_false, not_false_eq_true, ite_not, z_b0, z_b1, z_b01]
  unfold zuses
  refine zloop (fun r => r = some ((0, zcnt (fun q => decide (m 103 q = u)) (mN m).toNat), R, m)) (fun q (s : Int) => ev 261 4 [(2, 100), (0, u), (0, s), (0, q)] [] R m) (mN m) (fun q s => 0 ≤ q ∧ s = zcnt (fun q => decide (m 103 q = u)) q.toNat) ?_ ?_ 0 0 (by omega) ⟨by omega, rfl⟩
  · intro q s hq ⟨q0, hI⟩ ih
    have cb := zcnt_bd (fun q => decide (m 103 q = u)) q.toNat
    have d0 : ¬ mN m ≤ q := by omega
    have q1 : zw (q + 1) = q + 1 := zw_i (by omega) (by omega)
    have c64 : 0 ≤ q ∧ q < 64 := by omega
    have s0 : zw (s + 0) = s := by rw [Int.add_zero]; exact zw_i (by omega) (by omega)
    have s1 : zw (s + 1) = s + 1 := zw_i (by omega) (by omega)
    have ih2 := fun a h => ih a ⟨by omega, h⟩
    rw [zcnt_step _ q0, ← hI] at ih2
    rw [s261_4]
    simp only [s261_0, s261_1, s261_2, s261_3, s261_5, s261_6, s261_9, s261_12, s261_13, s261_14, s261_17, s261_18, s261_19, s261_20, s261_23, s261_24, s261_27, s261_28, s261_29, s261_30, s261_33, s261_36, s261_37, zps_0, zps_1, zps_2, zps_3, zps_9, Option.bind_some, Option.bind_none, Int.reduceEq, Int.reduceNe, Int.reduceLT, Int.reduceLE, Int.reduceNeg, Int.reduceAdd, Int.reduceSub, Int.reduceMul, reduceIte, if_true, if_false, true_and, and_true, false_and, and_false, or_true, true_or, or_false, false_or, not_true_eq_false, not_false_eq_true, ite_not, z_b0, z_b1, z_b01, rMK0 hM, rMK1 hM, rMK2 hM, rMK3 hM, rMK4 hM, rMK5 hM, rMK6 hM, rMK7 hM, rMK8 hM, rMK9 hM, rMK10 hM, rMK11 hM, rMK12 hM, rMK13 hM, rMK14 hM, rMK15 hM, rMK16 hM, rMK17 hM, rMK18 hM, rMK19 hM, rMK20 hM, rMK21 hM, rMK22 hM, rMK23 hM, rMK24 hM, rMK25 hM, rMK26 hM, rMK27 hM, rMK28 hM, rMK29 hM, rMK30 hM, rMK31 hM, rMK32 hM, rMK33 hM, rMK34 hM, rMK35 hM, rMK36 hM, rMK37 hM, rMK38 hM, rMK39 hM, rMK40 hM, rMK41 hM, rMK42 hM, rMK43 hM, rMK44 hM, rMK45 hM, rMK46 hM, rMK47 hM, rMK48 hM, rMK49 hM, rMK50 hM, rMK51 hM, kMK0, kMK1, kMK2, kMK3, kMK4, kMK5, kMK6, kMK7, kMK8, kMK9, kMK10, kMK11, kMK12, kMK13, kMK14, kMK15, kMK16, kMK17, kMK18, kMK19, kMK20, kMK21, kMK22, kMK23, kMK24, kMK25, kMK26, kMK27, kMK28, kMK29, kMK30, kMK31, kMK32, kMK33, kMK34, kMK35, kMK36, kMK37, kMK38, kMK39, kMK40, kMK41, kMK42, kMK43, kMK44, kMK45, kMK46, kMK47, kMK48, kMK49, kMK50, kMK51, kMK52, kMK53, kMK54, kMK55, kMK56, kMK57, kMK58, kMK59, kMK60, kMK61, kMK62, kMK63, kMK64, kMK65, kMK66, kMK67, kMK68, kMK69, kMK70, kMK71, kMK72, kMK73, kMK74, kMK75, kMK76, kMK77, kMK78, kMK79, kMK80, kMK81, kMK82, kMK83, kMK84, kMK85, kMK86, kMK87, kMK88, kMK89, kMK90, kMK91, kMK92, kMK93, kMK94, kMK95, kMK96, kMK97, kMK98, kMK99, kMK100, kMK101, kMK102, kMK103, kMK104, Pl, d0, q1, c64, s0, s1]
    by_cases e : m 103 q = u
    · rw [if_pos e]; exact ih2 _ (by simp [e])
    · rw [if_neg e]; exact ih2 _ (by simp [e])
  · intro s ⟨q0, hI⟩
    have d0 : mN m ≤ mN m := Int.le_refl _
    rw [s261_4]
    simp only [s261_0, s261_1, s261_2, s261_3, s261_5, s261_6, s261_9, s261_12, s261_13, s261_14, s261_17, s261_18, s261_19, s261_20, s261_23, s261_24, s261_27, s261_28, s261_29, s261_30, s261_33, s261_36, s261_37, zps_0, zps_1, zps_2, zps_3, zps_9, Option.bind_some, Option.bind_none, Int.reduceEq, Int.reduceNe, Int.reduceLT, Int.reduceLE, Int.reduceNeg, Int.reduceAdd, Int.reduceSub, Int.reduceMul, reduceIte, if_true, if_false, true_and, and_true, false_and, and_false, or_true, true_or, or_false, false_or, not_true_eq_false, not_false_eq_true, ite_not, z_b0, z_b1, z_b01, rMK0 hM, rMK1 hM, rMK2 hM, rMK3 hM, rMK4 hM, rMK5 hM, rMK6 hM, rMK7 hM, rMK8 hM, rMK9 hM, rMK10 hM, rMK11 hM, rMK12 hM, rMK13 hM, rMK14 hM, rMK15 hM, rMK16 hM, rMK17 hM, rMK18 hM, rMK19 hM, rMK20 hM, rMK21 hM, rMK22 hM, rMK23 hM, rMK24 hM, rMK25 hM, rMK26 hM, rMK27 hM, rMK28 hM, rMK29 hM, rMK30 hM, rMK31 hM, rMK32 hM, rMK33 hM, rMK34 hM, rMK35 hM, rMK36 hM, rMK37 hM, rMK38 hM, rMK39 hM, rMK40 hM, rMK41 hM, rMK42 hM, rMK43 hM, rMK44 hM, rMK45 hM, rMK46 hM, rMK47 hM, rMK48 hM, rMK49 hM, rMK50 hM, rMK51 hM, kMK0, kMK1, kMK2, kMK3, kMK4, kMK5, kMK6, kMK7, kMK8, kMK9, kMK10, kMK11, kMK12, kMK13, kMK14, kMK15, kMK16, kMK17, kMK18, kMK19, kMK20, kMK21, kMK22, kMK23, kMK24, kMK25, kMK26, kMK27, kMK28, kMK29, kMK30, kMK31, kMK32, kMK33, kMK34, kMK35, kMK36, kMK37, kMK38, kMK39, kMK40, kMK41, kMK42, kMK43, kMK44, kMK45, kMK46, kMK47, kMK48, kMK49, kMK50, kMK51, kMK52, kMK53, kMK54, kMK55, kMK56, kMK57, kMK58, kMK59, kMK60, kMK61, kMK62, kMK63, kMK64, kMK65, kMK66, kMK67, kMK68, kMK69, kMK70, kMK71, kMK72, kMK73, kMK74, kMK75, kMK76, kMK77, kMK78, kMK79, kMK80, kMK81, kMK82, kMK83, kMK84, kMK85, kMK86, kMK87, kMK88, kMK89, kMK90, kMK91, kMK92, kMK93, kMK94, kMK95, kMK96, kMK97, kMK98, kMK99, kMK100, kMK101, kMK102, kMK103, kMK104, Pl, d0, hI]
theorem zuses_bd (n : Int) (U : Int → Int) (u : Int) (hn : 0 ≤ n) : 0 ≤ zuses n U u ∧ zuses n U u ≤ n := by
  have := zcnt_bd (fun q => decide (U q = u)) n.toNat
  unfold zuses
  omega
theorem tz_withUse (hM : MK R) (hV : MV m) : ev 274 0 [(2, 100)] [] R m = some ((0, mN m - zuses (mN m) (m 103) 0), R, m) := by
  have Pl := tz_plots (R := R) hM hV
  have Us := tz_muses (R := R) hM hV 0
  have hN := MV_n hV
  have hb := zuses_bd (mN m) (m 103) 0 (by omega)
  have e : zw (mN m - zuses (mN m) (m 103) 0) = mN m - zuses (mN m) (m 103) 0 := zw_i (by omega) (by omega)
  simp only [s274_0, s274_1, s274_4, s274_5, s274_6, s274_9, s274_10, zps_0, zps_1, zps_2, zps_3, zps_9, Option.bind_some, Option.bind_none, Int.reduceEq, Int.reduceNe, Int.reduceLT, Int.reduceLE, Int.reduceNeg, Int.reduceAdd, Int.reduceSub, Int.reduceMul, reduceIte, if_true, if_false, true_and, and_true, false_and, and_false, or_true, true_or, or_false, false_or, not_true_eq_false, not_false_eq_true, ite_not, z_b0, z_b1, z_b01, rMK0 hM, rMK1 hM, rMK2 hM, rMK3 hM, rMK4 hM, rMK5 hM, rMK6 hM, rMK7 hM, rMK8 hM, rMK9 hM, rMK10 hM, rMK11 hM, rMK12 hM, rMK13 hM, rMK14 hM, rMK15 hM, rMK16 hM, rMK17 hM, rMK18 hM, rMK19 hM, rMK20 hM, rMK21 hM, rMK22 hM, rMK23 hM, rMK24 hM, rMK25 hM, rMK26 hM, rMK27 hM, rMK28 hM, rMK29 hM, rMK30 hM, rMK31 hM, rMK32 hM, rMK33 hM, rMK34 hM, rMK35 hM, rMK36 hM, rMK37 hM, rMK38 hM, rMK39 hM, rMK40 hM, rMK41 hM, rMK42 hM, rMK43 hM, rMK44 hM, rMK45 hM, rMK46 hM, rMK47 hM, rMK48 hM, rMK49 hM, rMK50 hM, rMK51 hM, kMK0, kMK1, kMK2, kMK3, kMK4, kMK5, kMK6, kMK7, kMK8, kMK9, kMK10, kMK11, kMK12, kMK13, kMK14, kMK15, kMK16, kMK17, kMK18, kMK19, kMK20, kMK21, kMK22, kMK23, kMK24, kMK25, kMK26, kMK27, kMK28, kMK29, kMK30, kMK31, kMK32, kMK33, kMK34, kMK35, kMK36, kMK37, kMK38, kMK39, kMK40, kMK41, kMK42, kMK43, kMK44, kMK45, kMK46, kMK47, kMK48, kMK49, kMK50, kMK51, kMK52, kMK53, kMK54, kMK55, kMK56, kMK57, kMK58, kMK59, kMK60, kMK61, kMK62, kMK63, kMK64, kMK65, kMK66, kMK67, kMK68, kMK69, kMK70, kMK71, kMK72, kMK73, kMK74, kMK75, kMK76, kMK77, kMK78, kMK79, kMK80, kMK81, kMK82, kMK83, kMK84, kMK85, kMK86, kMK87, kMK88, kMK89, kMK90, kMK91, kMK92, kMK93, kMK94, kMK95, kMK96, kMK97, kMK98, kMK99, kMK100, kMK101, kMK102, kMK103, kMK104, Pl, Us, e]
theorem tz_mmay (hM : MK R) (hV : MV m) {ln : Int} {L : Int → Int} (hL : ML m ln L) {p : Int} (hp : 0 ≤ p ∧ p < mN m) (u y : Int) : ev 259 0 [(2, 100), (0, p), (0, u), (0, y), (9, 0), (9, 0), (9, 0), (9, 0), (9, 0)] [] R m = some ((0, if zmay (mN m) (m 100 0) ln y (m 101) (m 103) L p u = true then 1 else 0), R, m) := by
  have Ho := fun k hk => tz_mholds (R := R) (m := m) (k := k) hM hL hk y
  have Li := tz_mlimit (R := R) (m := m) hM hL (a := 3) (by omega) u y
  have Us := tz_muses (R := R) hM hV u
  have hN := MV_n hV
  obtain ⟨hn, hW, hR⟩ := hL
  have h0 := hW.1
  have hw := hV.1
  have a1 := z_rem (a := p) (b := m 100 0) hp.1 (by omega) (by omega) (by omega)
  have a3 := z_div (a := p) (b := m 100 0) hp.1 (by omega) (by omega) (by omega)
  have w0 : ¬ m 100 0 = 0 := by omega
  have p64 : 0 ≤ p ∧ p < 64 := by omega
  have hcap := zcap hW u y (zuses (mN m) (m 103) u)
  simp only [s259_0, s259_1, s259_3, s259_4, s259_6, s259_7, s259_11, s259_12, s259_15, s259_18, s259_20, s259_22, s259_23, s259_25, s259_26, s259_29, s259_31, s259_32, s259_35, s259_36, s259_38, s259_39, s259_42, s259_45, s259_46, s259_47, s259_50, s259_51, s259_52, s259_53, s259_56, s259_58, s259_59, s259_60, s259_61, s259_62, s259_63, s259_66, s259_68, s259_69, s259_70, s259_71, s259_72, s259_75, s259_78, s259_79, s259_80, s259_83, s259_84, s259_85, s259_86, s259_89, s259_91, s259_92, s259_93, s259_94, s259_95, s259_96, s259_99, s259_101, s259_103, s259_104, s259_105, s259_106, s259_109, s259_112, s259_113, s259_116, s259_117, s259_119, s259_121, s259_124, s259_126, s259_129, s259_130, s259_133, s259_134, s259_136, s259_138, s259_141, s259_143, s259_146, s259_147, s259_150, s259_152, s259_153, s259_154, s259_155, s259_156, s259_159, s259_160, s259_163, s259_164, s259_166, s259_169, s259_172, s259_173, s259_174, s259_175, s259_176, s259_179, s259_181, s259_182, s259_185, s259_186, s259_187, s259_190, s259_191, s259_194, s259_195, s259_196, s259_199, s259_201, s259_204, s259_206, s259_209, s259_211, s259_213, s259_216, s259_217, s259_218, s259_221, s259_223, s259_226, s259_227, s259_230, s259_231, zps_0, zps_1, zps_2, zps_3, zps_9, Option.bind_some, Option.bind_none, Int.reduceEq, Int.reduceNe, Int.reduceLT, Int.reduceLE, Int.reduceNeg, Int.reduceAdd, Int.reduceSub, Int.reduceMul, reduceIte, if_true, if_false, true_and, and_true, false_and, and_false, or_true, true_or, or_false, false_or, not_true_eq_false, not_false_eq_true, ite_not, z_b0, z_b1, z_b01]
  refine zloop (fun r => r = some ((0, if zmay (mN m) (m 100 0) ln y (m 101) (m 103) L p u = true then 1 else 0), R, m)) (fun k (s : Bool × Bool × zV × zV) => ev 259 9 [(2, 100), (0, p), (0, u), (0, y), (0, if s.1 = true then 1 else 0), (0, if s.2.1 = true then 1 else 0), (0, k), s.2.2.1, s.2.2.2] [] R m) ln (fun k s => 0 ≤ k ∧ s.1 = zany (zinz L (p % m 100 0) (p / m 100 0) y) k.toNat ∧ s.2.1 = zany (fun k => zinz L (p % m 100 0) (p / m 100 0) y k && decide (L (7 * k + 2) = u)) k.toNat) ?_ ?_ 0 (false, false, (9, 0), (9, 0)) (by omega) ⟨by omega, rfl, rfl⟩
  · intro k ⟨s1, s2, l7, l8⟩ hk ⟨k0', hI, hJ⟩ ih
    obtain ⟨j0, j1, j2, j3, j4, j5, j6, j8⟩ := z7 (k := k) ⟨k0', by omega⟩
    obtain ⟨c0, c1, c2, c3, c4, c5, c6⟩ := z7b (k := k) ⟨k0', by omega⟩
    have r0 := RL_0 hR k0' hk
    have r2 := RL_i hR k0' hk 2 (by omega) (by omega) (by omega)
    have r4 := RL_i hR k0' hk 4 (by omega) (by omega) (by omega)
    have r5 := RL_i hR k0' hk 5 (by omega) (by omega) (by omega)
    have r6 := RL_i hR k0' hk 6 (by omega) (by omega) (by omega)
    have r3 := hR k 3 k0' hk (by omega) (by omega)
    have d0 : ¬ ln ≤ k := by omega
    have Hk := Ho k ⟨k0', hk⟩
    have ih2 := fun a h1 h2 => ih a ⟨by omega, h1, h2⟩
    dsimp only at hI hJ
    simp only [zany_step _ k0', ← hI, ← hJ] at ih2
    rw [s259_9]
    simp only [s259_0, s259_1, s259_3, s259_4, s259_6, s259_7, s259_11, s259_12, s259_15, s259_18, s259_20, s259_22, s259_23, s259_25, s259_26, s259_29, s259_31, s259_32, s259_35, s259_36, s259_38, s259_39, s259_42, s259_45, s259_46, s259_47, s259_50, s259_51, s259_52, s259_53, s259_56, s259_58, s259_59, s259_60, s259_61, s259_62, s259_63, s259_66, s259_68, s259_69, s259_70, s259_71, s259_72, s259_75, s259_78, s259_79, s259_80, s259_83, s259_84, s259_85, s259_86, s259_89, s259_91, s259_92, s259_93, s259_94, s259_95, s259_96, s259_99, s259_101, s259_103, s259_104, s259_105, s259_106, s259_109, s259_112, s259_113, s259_116, s259_117, s259_119, s259_121, s259_124, s259_126, s259_129, s259_130, s259_133, s259_134, s259_136, s259_138, s259_141, s259_143, s259_146, s259_147, s259_150, s259_152, s259_153, s259_154, s259_155, s259_156, s259_159, s259_160, s259_163, s259_164, s259_166, s259_169, s259_172, s259_173, s259_174, s259_175, s259_176, s259_179, s259_181, s259_182, s259_185, s259_186, s259_187, s259_190, s259_191, s259_194, s259_195, s259_196, s259_199, s259_201, s259_204, s259_206, s259_209, s259_211, s259_213, s259_216, s259_217, s259_218, s259_221, s259_223, s259_226, s259_227, s259_230, s259_231, zps_0, zps_1, zps_2, zps_3, zps_9, Option.bind_some, Option.bind_none, Int.reduceEq, Int.reduceNe, Int.reduceLT, Int.reduceLE, Int.reduceNeg, Int.reduceAdd, Int.reduceSub, Int.reduceMul, reduceIte, if_true, if_false, true_and, and_true, false_and, and_false, or_true, true_or, or_false, false_or, not_true_eq_false, not_false_eq_true, ite_not, z_b0, z_b1, z_b01, rMK0 hM, rMK1 hM, rMK2 hM, rMK3 hM, rMK4 hM, rMK5 hM, rMK6 hM, rMK7 hM, rMK8 hM, rMK9 hM, rMK10 hM, rMK11 hM, rMK12 hM, rMK13 hM, rMK14 hM, rMK15 hM, rMK16 hM, rMK17 hM, rMK18 hM, rMK19 hM, rMK20 hM, rMK21 hM, rMK22 hM, rMK23 hM, rMK24 hM, rMK25 hM, rMK26 hM, rMK27 hM, rMK28 hM, rMK29 hM, rMK30 hM, rMK31 hM, rMK32 hM, rMK33 hM, rMK34 hM, rMK35 hM, rMK36 hM, rMK37 hM, rMK38 hM, rMK39 hM, rMK40 hM, rMK41 hM, rMK42 hM, rMK43 hM, rMK44 hM, rMK45 hM, rMK46 hM, rMK47 hM, rMK48 hM, rMK49 hM, rMK50 hM, rMK51 hM, kMK0, kMK1, kMK2, kMK3, kMK4, kMK5, kMK6, kMK7, kMK8, kMK9, kMK10, kMK11, kMK12, kMK13, kMK14, kMK15, kMK16, kMK17, kMK18, kMK19, kMK20, kMK21, kMK22, kMK23, kMK24, kMK25, kMK26, kMK27, kMK28, kMK29, kMK30, kMK31, kMK32, kMK33, kMK34, kMK35, kMK36, kMK37, kMK38, kMK39, kMK40, kMK41, kMK42, kMK43, kMK44, kMK45, kMK46, kMK47, kMK48, kMK49, kMK50, kMK51, kMK52, kMK53, kMK54, kMK55, kMK56, kMK57, kMK58, kMK59, kMK60, kMK61, kMK62, kMK63, kMK64, kMK65, kMK66, kMK67, kMK68, kMK69, kMK70, kMK71, kMK72, kMK73, kMK74, kMK75, kMK76, kMK77, kMK78, kMK79, kMK80, kMK81, kMK82, kMK83, kMK84, kMK85, kMK86, kMK87, kMK88, kMK89, kMK90, kMK91, kMK92, kMK93, kMK94, kMK95, kMK96, kMK97, kMK98, kMK99, kMK100, kMK101, kMK102, kMK103, kMK104, hn, d0, j0, j2, j3, j4, j5, j6, j8, c0, c2, c3, c4, c5, c6, r0, r2, r4, r5, r6, Hk, w0, a1, a3, tz_in]
    have g0 : L (7 * k) = 0 → (m 105 (7 * k + 3) = L (7 * k + 3) ∧ (zholds ln L k y = true ↔ L (7 * k + 1) ≤ y)) := by
      intro g
      rw [if_neg (by omega), Int.add_zero] at r3
      refine ⟨r3, ?_⟩
      unfold zholds
      simp [g]
    have fin : ∀ b : Bool, zinz L (p % m 100 0) (p / m 100 0) y k = b → ∀ v7 : zV, ev 259 9 [(2, 100), (0, p), (0, u), (0, y), (0, if (s1 || b) = true then 1 else 0), (0, if (s2 || (b && decide (L (7 * k + 2) = u))) = true then 1 else 0), (0, k + 1), v7, (0, if b = true then 1 else 0)] [] R m = some ((0, if zmay (mN m) (m 100 0) ln y (m 101) (m 103) L p u = true then 1 else 0), R, m) := by
      intro b hb v7
      rw [hb] at ih2
      exact ih2 (s1 || b, s2 || (b && decide (L (7 * k + 2) = u)), v7, _) rfl rfl
    have ff := fun h => fin false h (0, 7 * k)
    have ft := fun h => fin true h (0, 7 * k)
    by_cases g1 : L (7 * k) = 0
    · obtain ⟨r3', hh⟩ := g0 g1
      rw [if_pos g1]
      by_cases g2 : L (7 * k + 1) ≤ y
      · rw [if_pos (hh.mpr g2), r3']
        by_cases g3 : L (7 * k + 3) ≤ p % m 100 0 ∧ p % m 100 0 ≤ L (7 * k + 5)
        · rw [if_pos g3]
          by_cases g4 : L (7 * k + 4) ≤ p / m 100 0 ∧ p / m 100 0 ≤ L (7 * k + 6)
          · rw [if_pos g4]
            have f := ft (by unfold zinz; rw [decide_eq_true_eq]; exact ⟨g1, g2, g3, g4⟩)
            by_cases g5 : L (7 * k + 2) = u
            · rw [if_pos g5] at *
              cases s1 <;> cases s2 <;> simp [g5] at f ⊢ <;> exact f
            · rw [if_neg g5] at *
              cases s1 <;> cases s2 <;> simp [g5] at f ⊢ <;> exact f
          · rw [if_neg g4]
            have f := ff (by unfold zinz; rw [decide_eq_false_iff_not]; exact fun z => g4 z.2.2.2)
            cases s1 <;> cases s2 <;> simp at f ⊢ <;> exact f
        · rw [if_neg g3]
          have f := ff (by unfold zinz; rw [decide_eq_false_iff_not]; exact fun z => g3 z.2.2.1)
          cases s1 <;> cases s2 <;> simp at f ⊢ <;> exact f
      · rw [if_neg (fun z => g2 (hh.mp z))]
        have f := ff (by unfold zinz; rw [decide_eq_false_iff_not]; exact fun z => g2 z.2.1)
        cases s1 <;> cases s2 <;> simp at f ⊢ <;> exact f
    · rw [if_neg g1]
      have f := ff (by unfold zinz; rw [decide_eq_false_iff_not]; exact fun z => g1 z.1)
      cases s1 <;> cases s2 <;> simp at f ⊢ <;> exact f
  · intro ⟨s1, s2, l7, l8⟩ ⟨k0', hI, hJ⟩
    have d0 : ln ≤ ln := Int.le_refl _
    dsimp only at hI hJ
    rw [s259_9]
    simp only [s259_0, s259_1, s259_3, s259_4, s259_6, s259_7, s259_11, s259_12, s259_15, s259_18, s259_20, s259_22, s259_23, s259_25, s259_26, s259_29, s259_31, s259_32, s259_35, s259_36, s259_38, s259_39, s259_42, s259_45, s259_46, s259_47, s259_50, s259_51, s259_52, s259_53, s259_56, s259_58, s259_59, s259_60, s259_61, s259_62, s259_63, s259_66, s259_68, s259_69, s259_70, s259_71, s259_72, s259_75, s259_78, s259_79, s259_80, s259_83, s259_84, s259_85, s259_86, s259_89, s259_91, s259_92, s259_93, s259_94, s259_95, s259_96, s259_99, s259_101, s259_103, s259_104, s259_105, s259_106, s259_109, s259_112, s259_113, s259_116, s259_117, s259_119, s259_121, s259_124, s259_126, s259_129, s259_130, s259_133, s259_134, s259_136, s259_138, s259_141, s259_143, s259_146, s259_147, s259_150, s259_152, s259_153, s259_154, s259_155, s259_156, s259_159, s259_160, s259_163, s259_164, s259_166, s259_169, s259_172, s259_173, s259_174, s259_175, s259_176, s259_179, s259_181, s259_182, s259_185, s259_186, s259_187, s259_190, s259_191, s259_194, s259_195, s259_196, s259_199, s259_201, s259_204, s259_206, s259_209, s259_211, s259_213, s259_216, s259_217, s259_218, s259_221, s259_223, s259_226, s259_227, s259_230, s259_231, zps_0, zps_1, zps_2, zps_3, zps_9, Option.bind_some, Option.bind_none, Int.reduceEq, Int.reduceNe, Int.reduceLT, Int.reduceLE, Int.reduceNeg, Int.reduceAdd, Int.reduceSub, Int.reduceMul, reduceIte, if_true, if_false, true_and, and_true, false_and, and_false, or_true, true_or, or_false, false_or, not_true_eq_false, not_false_eq_true, ite_not, z_b0, z_b1, z_b01, rMK0 hM, rMK1 hM, rMK2 hM, rMK3 hM, rMK4 hM, rMK5 hM, rMK6 hM, rMK7 hM, rMK8 hM, rMK9 hM, rMK10 hM, rMK11 hM, rMK12 hM, rMK13 hM, rMK14 hM, rMK15 hM, rMK16 hM, rMK17 hM, rMK18 hM, rMK19 hM, rMK20 hM, rMK21 hM, rMK22 hM, rMK23 hM, rMK24 hM, rMK25 hM, rMK26 hM, rMK27 hM, rMK28 hM, rMK29 hM, rMK30 hM, rMK31 hM, rMK32 hM, rMK33 hM, rMK34 hM, rMK35 hM, rMK36 hM, rMK37 hM, rMK38 hM, rMK39 hM, rMK40 hM, rMK41 hM, rMK42 hM, rMK43 hM, rMK44 hM, rMK45 hM, rMK46 hM, rMK47 hM, rMK48 hM, rMK49 hM, rMK50 hM, rMK51 hM, kMK0, kMK1, kMK2, kMK3, kMK4, kMK5, kMK6, kMK7, kMK8, kMK9, kMK10, kMK11, kMK12, kMK13, kMK14, kMK15, kMK16, kMK17, kMK18, kMK19, kMK20, kMK21, kMK22, kMK23, kMK24, kMK25, kMK26, kMK27, kMK28, kMK29, kMK30, kMK31, kMK32, kMK33, kMK34, kMK35, kMK36, kMK37, kMK38, kMK39, kMK40, kMK41, kMK42, kMK43, kMK44, kMK45, kMK46, kMK47, kMK48, kMK49, kMK50, kMK51, kMK52, kMK53, kMK54, kMK55, kMK56, kMK57, kMK58, kMK59, kMK60, kMK61, kMK62, kMK63, kMK64, kMK65, kMK66, kMK67, kMK68, kMK69, kMK70, kMK71, kMK72, kMK73, kMK74, kMK75, kMK76, kMK77, kMK78, kMK79, kMK80, kMK81, kMK82, kMK83, kMK84, kMK85, kMK86, kMK87, kMK88, kMK89, kMK90, kMK91, kMK92, kMK93, kMK94, kMK95, kMK96, kMK97, kMK98, kMK99, kMK100, kMK101, kMK102, kMK103, kMK104, hn, d0, Li, Us, p64]
    unfold zmay zzon
    rw [← hI, ← hJ]
    by_cases g1 : m 101 p = 0
    · by_cases g2 : m 103 p = 0
      · by_cases g3 : zlmt ln.toNat L 3 u y = -4 ∨ zuses (mN m) (m 103) u < zlmt ln.toNat L 3 u y
        · have g4 := hcap.mp g3
          cases s1 <;> cases s2 <;> simp [g1, g2, g4]
          all_goals (rcases g3 with g | g <;> simp [g])
          all_goals (by_cases g5 : zlmt ln.toNat L 3 u y = -4 <;> simp [g5] <;> omega)
        · have g4 := fun z => g3 (hcap.mpr z)
          have g5 : ¬ zlmt ln.toNat L 3 u y = -4 := fun z => g3 (Or.inl z)
          have g6 : zlmt ln.toNat L 3 u y ≤ zuses (mN m) (m 103) u := by omega
          have g7 : 0 ≤ (znum L 3 u y ln.toNat).1 ∧ (znum L 3 u y ln.toNat).1 ≤ zuses (mN m) (m 103) u := by
            by_cases q1 : (znum L 3 u y ln.toNat).1 < 0
            · exact absurd (Or.inl q1) g4
            · by_cases q2 : zuses (mN m) (m 103) u < (znum L 3 u y ln.toNat).1
              · exact absurd (Or.inr q2) g4
              · omega
          cases s1 <;> cases s2 <;> simp [g1, g2, g5, g6]
          all_goals exact g7
      · simp [g1, g2]
    · simp [g1]
end MODEL3
