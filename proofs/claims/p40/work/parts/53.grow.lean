/-! a year's steps -/
theorem BT_fr {m m' : zM} {o : Int} (h : ∀ a, o ≤ a → a ≤ o + 4 → m' a = m a) (hV : BV m o) (hT : TV m o) : BV m' o ∧ TV m' o := by
  unfold BV TV at *
  rw [h o (by omega) (by omega), h (o + 1) (by omega) (by omega), h (o + 2) (by omega) (by omega), h (o + 3) (by omega) (by omega), h (o + 4) (by omega) (by omega)]
  exact ⟨hV, hT⟩
theorem znum_in {L : Int → Int} {a u y : Int} (n : Nat) : (znum L a u y n = (-1, -1)) ∨ ∃ k : Int, 0 ≤ k ∧ k < n ∧ L (7 * k) = a ∧ L (7 * k + 2) = u ∧ L (7 * k + 1) ≤ y ∧ znum L a u y n = (L (7 * k + 3), L (7 * k + 1)) := by
  induction n with
  | zero => exact Or.inl rfl
  | succ n ih =>
    simp only [znum]
    split
    next h => exact Or.inr ⟨n, by omega, by omega, h.1, h.2.1, h.2.2.1, rfl⟩
    next h =>
      rcases ih with ih | ⟨k, h1, h2, h3⟩
      · exact Or.inl ih
      · exact Or.inr ⟨k, h1, by omega, h3⟩
theorem znum_bd {L : Int → Int} {ln a u y : Int} (hL : LW ln L) (ha : 2 ≤ a) : -1 ≤ (znum L a u y ln.toNat).1 ∧ (znum L a u y ln.toNat).1 ≤ 999 ∧ (a = 2 → (znum L a u y ln.toNat).1 ≤ 100) := by
  have h0 := hL.1
  rcases znum_in (L := L) (a := a) (u := u) (y := y) ln.toNat with h | ⟨k, h1, h2, h3, h4, h5, h6⟩
  · rw [h]; refine ⟨by decide, by decide, fun _ => by decide⟩
  · rw [h6]
    have := (hL.2.1 k h1 (by omega)).2.2.2.2
    have h7 := this.1 (by omega)
    exact ⟨by dsimp only; omega, h7.2, fun e => this.2 (by omega)⟩
def ztax (a w : Int) : Int := if 0 < a then (if 0 < w * a / 100 then w * a / 100 else 0) else 0
section GROW
variable {t : Int} {R m : zM}
def zown (m : zM) (o s y : Int) : zM := zpr (zpr (zpr m (o + 5) (zrw (m (o + 5)) s (m (o + 9) s))) (o + 7) (zrw (m (o + 7)) s (m (o + 10) s))) (o + 8) (zrw (m (o + 8)) s y)
theorem zown_rows (m : zM) (o s y : Int) : zown m o s y (o + 5) = zrw (m (o + 5)) s (m (o + 9) s) ∧ zown m o s y (o + 7) = zrw (m (o + 7)) s (m (o + 10) s) ∧ zown m o s y (o + 8) = zrw (m (o + 8)) s y ∧ ∀ a, a ≠ o + 5 → a ≠ o + 7 → a ≠ o + 8 → zown m o s y a = m a := by
  unfold zown
  refine ⟨?_, ?_, ?_, fun a h1 h2 h3 => ?_⟩
  · rw [zpr_ne (by omega), zpr_ne (by omega), zpr_at]
  · rw [zpr_ne (by omega), zpr_at]
  · rw [zpr_at]
  · rw [zpr_ne h3, zpr_ne h2, zpr_ne h1]
theorem tz_si0 (hB : TK R t) {nc s c : Int} {l3 : zV} (hnc : m (t + 9) 0 = nc) (hS : nc ≤ 20) (hs : 0 ≤ s ∧ s < nc) (hh : m (t + 18) s = -4) : ev 123 4 [(2, t), (0, c), (0, s), l3] [] R m = ev 123 4 [(2, t), (0, c), (0, s + 1), (0, -4)] [] R m := by
  have He := tz_sheld (R := R) (m := m) (s := s) (TK_S hB) (by omega) (by omega)
  simp only [tn_1_1, tn_1_2, tn_1_3, tn_1_4, tn_1_5, tn_7_1, tn_9_1, tn_9_2, tn_9_3, tn_9_4, tn_9_5, tn_9_6, tn_9_7, tn_9_8, tn_9_9, tn_9_10, tn_9_11, tn_9_12, tn_9_13, tn_9_14, tn_9_15] at He
  obtain ⟨hTK0, hTK1, hTK2, hTK3, hTK4, hTK5, hTK6, hTK7, hTK8, hTK9, hTK10, hTK11, hTK12, hTK13, hTK14, hTK15, hTK16, hTK17, hTK18, hTK19, hTK20, hTK21, hTK22, hTK23, hTK24, hTK25, hTK26, hTK27, hTK28, hTK29, hTK30, hTK31, hTK32, hTK33, hTK34, hTK35, hTK36, hTK37, hTK38, hTK39, hTK40, hTK41, hTK42, hTK43, hTK44, hTK45, hTK46, hTK47, hTK48, hTK49, hTK50, hTK51, hTK52, hTK53, hTK54, hTK55, hTK56, hTK57, hTK58, hTK59, hTK60, hTK61, hTK62, hTK63, hTK64, hTK65, hTK66, hTK67, hTK68, hTK69, hTK70, hTK71, hTK72, hTK73, hTK74, hTK75, hTK76, hTK77, hTK78⟩ := hB
  rw [s123_4]
  simp only [s123_0, s123_1, s123_2, s123_3, s123_5, s123_6, s123_9, s123_12, s123_15, s123_16, s123_19, s123_20, s123_23, s123_24, s123_25, s123_27, s123_30, s123_33, s123_34, s123_37, s123_38, s123_39, s123_42, s123_45, s123_46, s123_49, s123_50, s123_51, s123_54, s123_55, s123_58, s123_61, s123_62, s123_65, s123_68, s123_71, s123_72, zps_0, zps_1, zps_2, zps_3, zps_9, Option.bind_some, Option.bind_none, Int.reduceEq, Int.reduceNe, Int.reduceLT, Int.reduceLE, Int.reduceNeg, Int.reduceAdd, Int.reduceSub, Int.reduceMul, reduceIte, if_true, if_false, true_and, and_true, false_and, and_false, or_true, true_or, or_false, false_or, not_true_eq_false, not_false_eq_true, ite_not, z_b0, z_b1, z_b01, hTK0, hTK1, hTK2, hTK3, hTK4, hTK5, hTK6, hTK7, hTK8, hTK9, hTK10, hTK11, hTK12, hTK13, hTK14, hTK15, hTK16, hTK17, hTK18, hTK19, hTK20, hTK21, hTK22, hTK23, hTK24, hTK25, hTK26, hTK27, hTK28, hTK29, hTK30, hTK31, hTK32, hTK33, hTK34, hTK35, hTK36, hTK37, hTK38, hTK39, hTK40, hTK41, hTK42, hTK43, hTK44, hTK45, hTK46, hTK47, hTK48, hTK49, hTK50, hTK51, hTK52, hTK53, hTK54, hTK55, hTK56, hTK57, hTK58, hTK59, hTK60, hTK61, hTK62, hTK63, hTK64, hTK65, hTK66, hTK67, hTK68, hTK69, hTK70, hTK71, hTK72, hTK73, hTK74, hTK75, hTK76, hTK77, hTK78, hnc, if_neg (show ¬ nc ≤ s by omega), He, hh, zw_i (x := s + 1) (by omega) (by omega)]
theorem tz_si1 (hB : TK R t) (hV : BV m (t + 1)) (hT : TV m (t + 1)) {nc s c p : Int} {l3 : zV} (hnc : m (t + 9) 0 = nc) (hS : nc ≤ 20) (hs : 0 ≤ s ∧ s < nc) (hh : m (t + 18) s = p) (hp : 0 ≤ p ∧ p < m (t + 1) 2) (hu : 1 ≤ m (t + 10) s ∧ m (t + 10) s ≤ 3) (hc : 0 ≤ c ∧ c ≤ 100) : ev 123 4 [(2, t), (0, c), (0, s), l3] [] R m = ev 123 4 [(2, t), (0, c + 1), (0, s + 1), (0, p)] [] R (zuput (zown m (t + 9) s (m t 3)) (t + 1) p (m (t + 10) s)) := by
  obtain ⟨r5, r7, r8, rr⟩ := zown_rows m (t + 9) s (m t 3)
  have He := tz_sheld (R := R) (m := m) (s := s) (TK_S hB) (by omega) (by omega)
  have Ow := tz_sown (R := R) (m := m) (s := s) (TK_S hB) (by omega) (by omega) (m t 3)
  have Us := tz_suse (R := R) (m := zown m (t + 9) s (m t 3)) (s := s) (TK_S hB) (by rw [rr _ (by omega) (by omega) (by omega)]; omega) (by rw [rr _ (by omega) (by omega) (by omega)]; omega)
  have hBT := BT_fr (m := m) (m' := zown m (t + 9) s (m t 3)) (o := t + 1) (fun a h1 h2 => rr a (by omega) (by omega) (by omega)) hV hT
  have PU := tz_putUse (R := R) (m := zown m (t + 9) s (m t 3)) (p := p) (g := m (t + 10) s) (TK_B hB) hBT.1 (by rw [rr _ (by omega) (by omega) (by omega)]; exact hp) (by omega)
  rw [show zpr (zpr (zpr m (t + 9 + 5) (zrw (m (t + 9 + 5)) s (m (t + 9 + 9) s))) (t + 9 + 7) (zrw (m (t + 9 + 7)) s (m (t + 9 + 10) s))) (t + 9 + 8) (zrw (m (t + 9 + 8)) s (m t 3)) = zown m (t + 9) s (m t 3) from rfl] at Ow
  rw [rr (t + 9 + 1) (by omega) (by omega) (by omega)] at Us
  rw [show ∀ (m' : zM) (p g : Int), zpr (zpr m' (t + 1 + 3) (zrw (m' (t + 1 + 3)) p g)) (t + 1 + 4) (zth2 (zth1 (m' (t + 1 + 4)) p (m' (t + 1 + 3) p - 1)) p (g - 1)) = zuput m' (t + 1) p g from fun _ _ _ => rfl] at PU
  simp only [tn_1_1, tn_1_2, tn_1_3, tn_1_4, tn_1_5, tn_7_1, tn_9_1, tn_9_2, tn_9_3, tn_9_4, tn_9_5, tn_9_6, tn_9_7, tn_9_8, tn_9_9, tn_9_10, tn_9_11, tn_9_12, tn_9_13, tn_9_14, tn_9_15] at He Us
  generalize zown m (t + 9) s (m t 3) = M1 at *
  generalize zuput M1 (t + 1) p (m (t + 10) s) = M2 at *
  clear rr r5 r7 r8 hBT
  obtain ⟨hTK0, hTK1, hTK2, hTK3, hTK4, hTK5, hTK6, hTK7, hTK8, hTK9, hTK10, hTK11, hTK12, hTK13, hTK14, hTK15, hTK16, hTK17, hTK18, hTK19, hTK20, hTK21, hTK22, hTK23, hTK24, hTK25, hTK26, hTK27, hTK28, hTK29, hTK30, hTK31, hTK32, hTK33, hTK34, hTK35, hTK36, hTK37, hTK38, hTK39, hTK40, hTK41, hTK42, hTK43, hTK44, hTK45, hTK46, hTK47, hTK48, hTK49, hTK50, hTK51, hTK52, hTK53, hTK54, hTK55, hTK56, hTK57, hTK58, hTK59, hTK60, hTK61, hTK62, hTK63, hTK64, hTK65, hTK66, hTK67, hTK68, hTK69, hTK70, hTK71, hTK72, hTK73, hTK74, hTK75, hTK76, hTK77, hTK78⟩ := hB
  rw [s123_4]
  simp only [s123_0, s123_1, s123_2, s123_3, s123_5, s123_6, s123_9, s123_12, s123_15, s123_16, s123_19, s123_20, s123_23, s123_24, s123_25, s123_27, s123_30, s123_33, s123_34, s123_37, s123_38, s123_39, s123_42, s123_45, s123_46, s123_49, s123_50, s123_51, s123_54, s123_55, s123_58, s123_61, s123_62, s123_65, s123_68, s123_71, s123_72, zps_0, zps_1, zps_2, zps_3, zps_9, Option.bind_some, Option.bind_none, Int.reduceEq, Int.reduceNe, Int.reduceLT, Int.reduceLE, Int.reduceNeg, Int.reduceAdd, Int.reduceSub, Int.reduceMul, reduceIte, if_true, if_false, true_and, and_true, false_and, and_false, or_true, true_or, or_false, false_or, not_true_eq_false, not_false_eq_true, ite_not, z_b0, z_b1, z_b01, hTK0, hTK1, hTK2, hTK3, hTK4, hTK5, hTK6, hTK7, hTK8, hTK9, hTK10, hTK11, hTK12, hTK13, hTK14, hTK15, hTK16, hTK17, hTK18, hTK19, hTK20, hTK21, hTK22, hTK23, hTK24, hTK25, hTK26, hTK27, hTK28, hTK29, hTK30, hTK31, hTK32, hTK33, hTK34, hTK35, hTK36, hTK37, hTK38, hTK39, hTK40, hTK41, hTK42, hTK43, hTK44, hTK45, hTK46, hTK47, hTK48, hTK49, hTK50, hTK51, hTK52, hTK53, hTK54, hTK55, hTK56, hTK57, hTK58, hTK59, hTK60, hTK61, hTK62, hTK63, hTK64, hTK65, hTK66, hTK67, hTK68, hTK69, hTK70, hTK71, hTK72, hTK73, hTK74, hTK75, hTK76, hTK77, hTK78, hnc, if_neg (show ¬ nc ≤ s by omega), He, hh, if_neg (show ¬ p = -4 by omega), Ow, Us, PU, zw_i (x := s + 1) (by omega) (by omega), zw_i (x := c + 1) (by omega) (by omega)]
theorem tz_si2 (hB : TK R t) {nc c : Int} {l3 : zV} (hnc : m (t + 9) 0 = nc) : ev 123 4 [(2, t), (0, c), (0, nc), l3] [] R m = some ((0, c), R, m) := by
  obtain ⟨hTK0, hTK1, hTK2, hTK3, hTK4, hTK5, hTK6, hTK7, hTK8, hTK9, hTK10, hTK11, hTK12, hTK13, hTK14, hTK15, hTK16, hTK17, hTK18, hTK19, hTK20, hTK21, hTK22, hTK23, hTK24, hTK25, hTK26, hTK27, hTK28, hTK29, hTK30, hTK31, hTK32, hTK33, hTK34, hTK35, hTK36, hTK37, hTK38, hTK39, hTK40, hTK41, hTK42, hTK43, hTK44, hTK45, hTK46, hTK47, hTK48, hTK49, hTK50, hTK51, hTK52, hTK53, hTK54, hTK55, hTK56, hTK57, hTK58, hTK59, hTK60, hTK61, hTK62, hTK63, hTK64, hTK65, hTK66, hTK67, hTK68, hTK69, hTK70, hTK71, hTK72, hTK73, hTK74, hTK75, hTK76, hTK77, hTK78⟩ := hB
  rw [s123_4]
  simp only [s123_0, s123_1, s123_2, s123_3, s123_5, s123_6, s123_9, s123_12, s123_15, s123_16, s123_19, s123_20, s123_23, s123_24, s123_25, s123_27, s123_30, s123_33, s123_34, s123_37, s123_38, s123_39, s123_42, s123_45, s123_46, s123_49, s123_50, s123_51, s123_54, s123_55, s123_58, s123_61, s123_62, s123_65, s123_68, s123_71, s123_72, zps_0, zps_1, zps_2, zps_3, zps_9, Option.bind_some, Option.bind_none, Int.reduceEq, Int.reduceNe, Int.reduceLT, Int.reduceLE, Int.reduceNeg, Int.reduceAdd, Int.reduceSub, Int.reduceMul, reduceIte, if_true, if_false, true_and, and_true, false_and, and_false, or_true, true_or, or_false, false_or, not_true_eq_false, not_false_eq_true, ite_not, z_b0, z_b1, z_b01, hTK0, hTK1, hTK2, hTK3, hTK4, hTK5, hTK6, hTK7, hTK8, hTK9, hTK10, hTK11, hTK12, hTK13, hTK14, hTK15, hTK16, hTK17, hTK18, hTK19, hTK20, hTK21, hTK22, hTK23, hTK24, hTK25, hTK26, hTK27, hTK28, hTK29, hTK30, hTK31, hTK32, hTK33, hTK34, hTK35, hTK36, hTK37, hTK38, hTK39, hTK40, hTK41, hTK42, hTK43, hTK44, hTK45, hTK46, hTK47, hTK48, hTK49, hTK50, hTK51, hTK52, hTK53, hTK54, hTK55, hTK56, hTK57, hTK58, hTK59, hTK60, hTK61, hTK62, hTK63, hTK64, hTK65, hTK66, hTK67, hTK68, hTK69, hTK70, hTK71, hTK72, hTK73, hTK74, hTK75, hTK76, hTK77, hTK78, hnc, if_pos (show nc ≤ nc by omega)]
theorem tz_settleIn (hB : TK R t) (hV : BV m (t + 1)) (hT : TV m (t + 1)) {nc : Int} (hnc : m (t + 9) 0 = nc) (hS : 0 ≤ nc ∧ nc ≤ 20) (hU : ∀ s, 0 ≤ s → s < nc → 1 ≤ m (t + 10) s ∧ m (t + 10) s ≤ 3) {pu : Int → Int} {va : Int → Int → Int} {Q : zP} (hC : CS m (t + 9) nc pu va Q) (hP : zPI (m (t + 1) 2) nc Q) :
    ∃ m' : zM, ev 123 0 [(2, t), (9, 0), (9, 0), (9, 0)] [] R m = some ((0, zcnt (fun s => decide (0 ≤ Q.1 s)) nc.toNat), R, m') ∧ zfr [t + 4, t + 5, t + 14, t + 16, t + 17] m m' ∧ BV m' (t + 1) ∧ TV m' (t + 1) ∧ (∀ p, 0 ≤ p → p < m (t + 1) 2 → m' (t + 4) p = if 0 ≤ Q.2.2 p then m (t + 10) (Q.2.2 p) else m (t + 4) p) ∧ ∀ s, 0 ≤ s → s < nc → m' (t + 14) s = (if 0 ≤ Q.1 s then Q.1 s else m (t + 14) s) ∧ m' (t + 16) s = (if 0 ≤ Q.1 s then zbid pu va s (Q.1 s) else m (t + 16) s) ∧ m' (t + 17) s = (if 0 ≤ Q.1 s then m t 3 else m (t + 17) s) := by
  have h64 := hV.2.2.2.2.2.1
  have row : ∀ m' : zM, zfr [t + 4, t + 5, t + 14, t + 16, t + 17] m m' → ∀ a, (a ≠ t + 4 ∧ a ≠ t + 5 ∧ a ≠ t + 14 ∧ a ≠ t + 16 ∧ a ≠ t + 17) → m' a = m a := fun m' hf a ha => hf a (by
    simp only [List.mem_cons, List.not_mem_nil, or_false, not_or]
    exact ha)
  have st : ev 123 0 [(2, t), (9, 0), (9, 0), (9, 0)] [] R m = ev 123 4 [(2, t), (0, 0), (0, 0), (9, 0)] [] R m := by simp only [s123_0, s123_1, s123_2, s123_3, s123_5, s123_6, s123_9, s123_12, s123_15, s123_16, s123_19, s123_20, s123_23, s123_24, s123_25, s123_27, s123_30, s123_33, s123_34, s123_37, s123_38, s123_39, s123_42, s123_45, s123_46, s123_49, s123_50, s123_51, s123_54, s123_55, s123_58, s123_61, s123_62, s123_65, s123_68, s123_71, s123_72, zps_0, zps_1, zps_2, zps_3, zps_9, Option.bind_some, Option.bind_none, Int.reduceEq, Int.reduceNe, Int.reduceLT, Int.reduceLE, Int.reduceNeg, Int.reduceAdd, Int.reduceSub, Int.reduceMul, reduceIte, if_true, if_false, true_and, and_true, false_and, and_false, or_true, true_or, or_false, false_or, not_true_eq_false, not_false_eq_true, ite_not, z_b0, z_b1, z_b01]
  rw [st]
  have hC18 : ∀ s, 0 ≤ s → s < nc → m (t + 18) s = Q.1 s := fun s h1 h2 => by have := hC.1 s h1 h2; rw [show t + 9 + 9 = t + 18 by omega] at this; exact this
  have hC19 : ∀ s, 0 ≤ s → s < nc → 0 ≤ Q.1 s → m (t + 19) s = zbid pu va s (Q.1 s) := fun s h1 h2 h3 => by have := hC.2.2.2 s h1 h2 h3; rw [show t + 9 + 10 = t + 19 by omega] at this; exact this
  refine zloop (fun r => ∃ m' : zM, r = some ((0, zcnt (fun s => decide (0 ≤ Q.1 s)) nc.toNat), R, m') ∧ zfr [t + 4, t + 5, t + 14, t + 16, t + 17] m m' ∧ BV m' (t + 1) ∧ TV m' (t + 1) ∧ (∀ p, 0 ≤ p → p < m (t + 1) 2 → m' (t + 4) p = if 0 ≤ Q.2.2 p then m (t + 10) (Q.2.2 p) else m (t + 4) p) ∧ ∀ s, 0 ≤ s → s < nc → m' (t + 14) s = (if 0 ≤ Q.1 s then Q.1 s else m (t + 14) s) ∧ m' (t + 16) s = (if 0 ≤ Q.1 s then zbid pu va s (Q.1 s) else m (t + 16) s) ∧ m' (t + 17) s = (if 0 ≤ Q.1 s then m t 3 else m (t + 17) s)) (fun s (a : zM × Int × zV) => ev 123 4 [(2, t), (0, a.2.1), (0, s), a.2.2] [] R a.1) nc
    (fun k a => 0 ≤ k ∧ a.2.1 = zcnt (fun s => decide (0 ≤ Q.1 s)) k.toNat ∧ zfr [t + 4, t + 5, t + 14, t + 16, t + 17] m a.1 ∧ BV a.1 (t + 1) ∧ TV a.1 (t + 1) ∧ (∀ p, 0 ≤ p → p < m (t + 1) 2 → a.1 (t + 4) p = if 0 ≤ Q.2.2 p ∧ Q.2.2 p < k then m (t + 10) (Q.2.2 p) else m (t + 4) p) ∧ ∀ s, 0 ≤ s → s < nc → a.1 (t + 14) s = (if 0 ≤ Q.1 s ∧ s < k then Q.1 s else m (t + 14) s) ∧ a.1 (t + 16) s = (if 0 ≤ Q.1 s ∧ s < k then zbid pu va s (Q.1 s) else m (t + 16) s) ∧ a.1 (t + 17) s = (if 0 ≤ Q.1 s ∧ s < k then m t 3 else m (t + 17) s)) ?_ ?_ 0 (m, 0, (9, 0)) (by omega) ⟨by omega, rfl, zfr_rf _ _, hV, hT, fun p h1 h2 => by rw [if_neg (by omega)], fun s h1 h2 => by rw [if_neg (by omega), if_neg (by omega), if_neg (by omega)]; exact ⟨rfl, rfl, rfl⟩⟩
  · intro s ⟨m1, c, l3⟩ hs ⟨hs0, hc, hf, hV1, hT1, hI, hJ⟩ ih
    dsimp only at hc hf hV1 hT1 hI hJ ⊢
    have r9 := row m1 hf (t + 9) (by omega)
    have r10 := row m1 hf (t + 10) (by omega)
    have r18 := row m1 hf (t + 18) (by omega)
    have r19 := row m1 hf (t + 19) (by omega)
    have r1 := row m1 hf (t + 1) (by omega)
    have rt := row m1 hf t (by omega)
    have cb := zcnt_bd (fun s => decide (0 ≤ Q.1 s)) s.toNat
    have hh := hC18 s hs0 hs
    have ih2 := fun a h => ih a ⟨by omega, h⟩
    rw [zcnt_step _ hs0] at ih2
    by_cases hq : 0 ≤ Q.1 s
    · have hPs : Q.1 s < m (t + 1) 2 ∧ Q.2.2 (Q.1 s) = s := by rcases hP.1 s hs0 hs with h | h <;> omega
      have hUs := hU s hs0 hs
      have hb := hC19 s hs0 hs hq
      rw [tz_si1 hB hV1 hT1 (by rw [r9, hnc]) hS.2 ⟨hs0, hs⟩ (by rw [r18, hh]) ⟨hq, by rw [r1]; omega⟩ (by rw [r10]; exact hUs) ⟨by omega, by omega⟩]
      obtain ⟨w5, w7, w8, ww⟩ := zown_rows m1 (t + 9) s (m1 t 3)
      have hBT := BT_fr (m := m1) (m' := zown m1 (t + 9) s (m1 t 3)) (o := t + 1) (fun a h1 h2 => ww a (by omega) (by omega) (by omega)) hV1 hT1
      have ok := zuput_ok (g := m1 (t + 10) s) hBT.1 hBT.2 (p := Q.1 s) ⟨hq, by rw [ww _ (by omega) (by omega) (by omega), r1]; omega⟩ (by rw [r10]; omega)
      obtain ⟨v3, v4, vv⟩ := zuput_rows (zown m1 (t + 9) s (m1 t 3)) (t + 1) (Q.1 s) (m1 (t + 10) s)
      refine ih2 (zuput (zown m1 (t + 9) s (m1 t 3)) (t + 1) (Q.1 s) (m1 (t + 10) s), c + 1, (0, Q.1 s)) ⟨by simp [hq, hc], ?_, ok.1, ok.2, ?_, ?_⟩
      · intro a ha
        dsimp only
        have h2 := hf a ha
        simp only [List.mem_cons, List.not_mem_nil, or_false, not_or] at ha
        rw [vv a (by omega) (by omega), ww a (by omega) (by omega) (by omega), h2]
      · intro p h1 h2
        dsimp only
        rw [show t + 4 = t + 1 + 3 by omega, v3, ww _ (by omega) (by omega) (by omega), r10, zrw_if, show t + 1 + 3 = t + 4 by omega, hI p h1 h2]
        by_cases e : p = Q.1 s
        · rw [if_pos e, e, hPs.2, if_pos ⟨hs0, by omega⟩]
        · rw [if_neg e]
          by_cases e2 : 0 ≤ Q.2.2 p ∧ Q.2.2 p < s
          · rw [if_pos e2, if_pos (by omega)]
          · rw [if_neg e2, if_neg]
            intro e3
            have e4 : Q.2.2 p = s := by omega
            rcases hP.2 p with h | ⟨-, -, -, -, h⟩
            · omega
            · rw [e4] at h; exact e h.symm
      · intro q h1 h2
        dsimp only
        rw [vv (t + 14) (by omega) (by omega), vv (t + 16) (by omega) (by omega), vv (t + 17) (by omega) (by omega), show t + 14 = t + 9 + 5 by omega, show t + 16 = t + 9 + 7 by omega, show t + 17 = t + 9 + 8 by omega, w5, w7, w8, show t + 9 + 5 = t + 14 by omega, show t + 9 + 7 = t + 16 by omega, show t + 9 + 8 = t + 17 by omega, show t + 9 + 9 = t + 18 by omega, show t + 9 + 10 = t + 19 by omega]
        have := hJ q h1 h2
        by_cases e : q = s
        · subst e
          rw [zrw_at, zrw_at, zrw_at, if_pos ⟨hq, by omega⟩, if_pos ⟨hq, by omega⟩, if_pos ⟨hq, by omega⟩, r18, r19, rt]
          exact ⟨hh, hb, rfl⟩
        · rw [zrw_ne e, zrw_ne e, zrw_ne e, this.1, this.2.1, this.2.2]
          have e3 : (0 ≤ Q.1 q ∧ q < s) ↔ (0 ≤ Q.1 q ∧ q < s + 1) := by omega
          simp only [e3, and_self]
    · have hq4 : Q.1 s = -4 := by rcases hP.1 s hs0 hs with h | h <;> omega
      rw [tz_si0 hB (by rw [r9, hnc]) hS.2 ⟨hs0, hs⟩ (by rw [r18, hh, hq4])]
      refine ih2 (m1, c, (0, -4)) ⟨by simp [hq, hc], hf, hV1, hT1, ?_, ?_⟩
      · intro p h1 h2
        dsimp only
        rw [hI p h1 h2]
        by_cases e2 : 0 ≤ Q.2.2 p ∧ Q.2.2 p < s
        · rw [if_pos e2, if_pos (by omega)]
        · rw [if_neg e2, if_neg]
          intro e3
          have e4 : Q.2.2 p = s := by omega
          rcases hP.2 p with h | ⟨h5, -, -, -, h⟩
          · omega
          · rw [e4] at h; omega
      · intro q h1 h2
        dsimp only
        have := hJ q h1 h2
        rw [this.1, this.2.1, this.2.2]
        have e3 : (0 ≤ Q.1 q ∧ q < s) ↔ (0 ≤ Q.1 q ∧ q < s + 1) := by
          by_cases e : q = s
          · subst e; omega
          · omega
        simp only [e3, and_self]
  · intro ⟨m1, c, l3⟩ ⟨hs0, hc, hf, hV1, hT1, hI, hJ⟩
    dsimp only at hc hf hV1 hT1 hI hJ ⊢
    have r9 := row m1 hf (t + 9) (by omega)
    rw [tz_si2 hB (by rw [r9, hnc])]
    refine ⟨m1, by rw [hc], hf, hV1, hT1, fun p h1 h2 => ?_, fun s h1 h2 => ?_⟩
    · rw [hI p h1 h2]
      have : (0 ≤ Q.2.2 p ∧ Q.2.2 p < nc) ↔ 0 ≤ Q.2.2 p := by rcases hP.2 p with h | h <;> omega
      simp only [this]
    · have := hJ s h1 h2
      rw [this.1, this.2.1, this.2.2]
      have : (0 ≤ Q.1 s ∧ s < nc) ↔ 0 ≤ Q.1 s := by omega
      simp only [this, and_self]
end GROW
