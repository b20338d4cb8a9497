/-! the town: uses put, plots shown -/
theorem zth_bt {f : Int → Int} {p b a i q : Int} (hp : 0 ≤ p ∧ p < 64) (hi : 0 ≤ i ∧ i < 5) (hq : 0 ≤ q ∧ q < 64) : zbt (zth2 (zth1 f p b) p a i) q = ((zbt (f i) q && !(decide (i = b) && decide (q = p))) || (decide (i = a) && decide (q = p))) := by
  have e1 : zbt (zth1 f p b i) q = (zbt (f i) q && !(decide (i = b) && decide (q = p))) := by
    unfold zth1
    by_cases h : 0 ≤ b ∧ b < 5
    · rw [if_pos h, zrw_if]
      by_cases hb : i = b
      · rw [if_pos hb, zbt_clr hp hq, hb]; simp
      · rw [if_neg hb]; simp [hb]
    · rw [if_neg h]
      have : ¬ i = b := by omega
      simp [this]
  unfold zth2
  by_cases h : 0 ≤ a ∧ a < 5
  · rw [if_pos h, zrw_if]
    by_cases ha : i = a
    · rw [if_pos ha, zbt_set hp hq, ← ha, e1]; simp
    · rw [if_neg ha, e1]; simp [ha]
  · rw [if_neg h, e1]
    have : ¬ i = a := by omega
    simp [this]
def zuput (m : zM) (o p g : Int) : zM := zpr (zpr m (o + 3) (zrw (m (o + 3)) p g)) (o + 4) (zth2 (zth1 (m (o + 4)) p (m (o + 3) p - 1)) p (g - 1))
theorem zuput_rows (m : zM) (o p g : Int) : zuput m o p g (o + 3) = zrw (m (o + 3)) p g ∧ zuput m o p g (o + 4) = zth2 (zth1 (m (o + 4)) p (m (o + 3) p - 1)) p (g - 1) ∧ ∀ a, a ≠ o + 3 → a ≠ o + 4 → zuput m o p g a = m a := by
  unfold zuput
  refine ⟨?_, ?_, fun a h1 h2 => ?_⟩
  · rw [zpr_ne (by omega), zpr_at]
  · rw [zpr_at]
  · rw [zpr_ne h2, zpr_ne h1]
theorem zuput_ok {m : zM} {o p g : Int} (hV : BV m o) (hT : TV m o) (hp : 0 ≤ p ∧ p < m o 2) (hg : 0 ≤ g ∧ g ≤ 3) : BV (zuput m o p g) o ∧ TV (zuput m o p g) o := by
  obtain ⟨r3, r4, rr⟩ := zuput_rows m o p g
  have h64 := hV.2.2.2.2.2.1
  have hU := (hV.2.2.2.2.2.2.2 p hp.1 hp.2).2.2
  constructor
  · unfold BV at *
    rw [rr o (by omega) (by omega), rr (o + 1) (by omega) (by omega), rr (o + 2) (by omega) (by omega), r3]
    refine ⟨hV.1, hV.2.1, hV.2.2.1, hV.2.2.2.1, hV.2.2.2.2.1, hV.2.2.2.2.2.1, hV.2.2.2.2.2.2.1, fun q h1 h2 => ?_⟩
    have := hV.2.2.2.2.2.2.2 q h1 h2
    refine ⟨this.1, this.2.1, ?_⟩
    rw [zrw_if]
    split
    · exact hg
    · exact this.2.2
  · intro i q h1 h2 h3 h4
    rw [r4, r3, rr o (by omega) (by omega), rr (o + 1) (by omega) (by omega), zth_bt ⟨hp.1, by omega⟩ ⟨h1, h2⟩ ⟨h3, h4⟩, hT i q h1 h2 h3 h4]
    unfold zthing
    by_cases hi : i < 3
    · rw [if_pos hi, if_pos hi, zrw_if]
      by_cases hq : q = p
      · subst hq
        rw [if_pos rfl]
        rw [Bool.eq_iff_iff]
        simp only [Bool.or_eq_true, Bool.and_eq_true, Bool.not_eq_true', decide_eq_true_eq, Bool.and_eq_false_iff, decide_eq_false_iff_not, not_true_eq_false, or_false, and_true]
        omega
      · rw [if_neg hq]
        simp [hq]
    · rw [if_neg hi, if_neg hi]
      have e1 : ¬ i = m (o + 3) p - 1 := by omega
      have e2 : ¬ i = g - 1 := by omega
      simp [e1, e2]
def zgput (m : zM) (o p g : Int) : zM := zpr (zpr (zpr m (o + 1) (zrw (m (o + 1)) p g)) o (zrw (m o) 3 (m o 3 + 1))) (o + 4) (zth2 (zth1 (m (o + 4)) p (zgt (m (o + 1) p))) p (zgt g))
theorem zgput_rows (m : zM) (o p g : Int) : zgput m o p g (o + 1) = zrw (m (o + 1)) p g ∧ zgput m o p g o = zrw (m o) 3 (m o 3 + 1) ∧ zgput m o p g (o + 4) = zth2 (zth1 (m (o + 4)) p (zgt (m (o + 1) p))) p (zgt g) ∧ ∀ a, a ≠ o → a ≠ o + 1 → a ≠ o + 4 → zgput m o p g a = m a := by
  unfold zgput
  refine ⟨?_, ?_, ?_, fun a h1 h2 h3 => ?_⟩
  · rw [zpr_ne (by omega), zpr_ne (by omega), zpr_at]
  · rw [zpr_ne (by omega), zpr_at]
  · rw [zpr_at]
  · rw [zpr_ne h3, zpr_ne h1, zpr_ne h2]
theorem zrw3 (f : Int → Int) (v : Int) : zrw f 3 v 0 = f 0 ∧ zrw f 3 v 1 = f 1 ∧ zrw f 3 v 2 = f 2 := ⟨rfl, rfl, rfl⟩
theorem zgput_ok {m : zM} {o p g : Int} (hV : BV m o) (hT : TV m o) (hp : 0 ≤ p ∧ p < m o 2) (hg : 0 ≤ g ∧ g ≤ 2) : BV (zgput m o p g) o ∧ TV (zgput m o p g) o := by
  obtain ⟨r1, r0, r4, rr⟩ := zgput_rows m o p g
  have h64 := hV.2.2.2.2.2.1
  have hU := (hV.2.2.2.2.2.2.2 p hp.1 hp.2).1
  obtain ⟨z0, z1, z2⟩ := zrw3 (m o) (m o 3 + 1)
  constructor
  · unfold BV at *
    rw [r0, z0, z1, z2, rr (o + 2) (by omega) (by omega) (by omega), rr (o + 3) (by omega) (by omega) (by omega), r1]
    refine ⟨hV.1, hV.2.1, hV.2.2.1, hV.2.2.2.1, hV.2.2.2.2.1, hV.2.2.2.2.2.1, hV.2.2.2.2.2.2.1, fun q h1 h2 => ?_⟩
    have := hV.2.2.2.2.2.2.2 q h1 h2
    refine ⟨?_, this.2.1, this.2.2⟩
    rw [zrw_if]
    split
    · exact hg
    · exact this.1
  · intro i q h1 h2 h3 h4
    rw [r4, r1, r0, z2, rr (o + 3) (by omega) (by omega) (by omega), zth_bt ⟨hp.1, by omega⟩ ⟨h1, h2⟩ ⟨h3, h4⟩, hT i q h1 h2 h3 h4]
    unfold zthing zgt
    by_cases hi : i < 3
    · rw [if_pos hi, if_pos hi]
      have e1 : ¬ i = (if m (o + 1) p = 0 then -1 else m (o + 1) p + 2) := by split <;> omega
      have e2 : ¬ i = (if g = 0 then -1 else g + 2) := by split <;> omega
      simp [e1, e2]
    · rw [if_neg hi, if_neg hi, zrw_if]
      by_cases hq : q = p
      · subst hq
        rw [if_pos rfl]
        rw [Bool.eq_iff_iff]
        simp only [Bool.or_eq_true, Bool.and_eq_true, Bool.not_eq_true', decide_eq_true_eq, Bool.and_eq_false_iff, decide_eq_false_iff_not, not_true_eq_false, or_false, and_true]
        by_cases g1 : m (o + 1) q = 0 <;> by_cases g2 : g = 0 <;> simp only [g1, g2, if_true, if_false, reduceIte] <;> omega
      · rw [if_neg hq]
        simp [hq]
theorem TG_fr {m m' : zM} {t : Int} (h : ∀ a, t + 1 ≤ a → a ≤ t + 8 → m' a = m a) (hG : TG m t) : TG m' t := by
  unfold TG BV NV TV NF at *
  simp only [tn_1_1, tn_1_2, tn_1_3, tn_1_4, tn_1_5, tn_7_1, tn_9_1, tn_9_2, tn_9_3, tn_9_4, tn_9_5, tn_9_6, tn_9_7, tn_9_8, tn_9_9, tn_9_10, tn_9_11, tn_9_12, tn_9_13, tn_9_14, tn_9_15] at *
  rw [h (t + 1) (by omega) (by omega), h (t + 2) (by omega) (by omega), h (t + 3) (by omega) (by omega), h (t + 4) (by omega) (by omega), h (t + 5) (by omega) (by omega), h (t + 6) (by omega) (by omega), h (t + 7) (by omega) (by omega), h (t + 8) (by omega) (by omega)]
  exact hG
section TOWN2
variable {t : Int} {R m : zM}
theorem tz_canGround (hB : TK R t) (hV : BV m (t + 1)) {p : Int} (hp : 0 ≤ p ∧ p < m (t + 1) 2) : ev 115 0 [(2, t), (0, p)] [] R m = some ((0, if m (t + 4) p = 0 then 1 else 0), R, m) := by
  have A := tz_useOf (m := m) (TK_B hB) hV hp
  obtain ⟨hTK0, hTK1, hTK2, hTK3, hTK4, hTK5, hTK6, hTK7, hTK8, hTK9, hTK10, hTK11, hTK12, hTK13, hTK14, hTK15, hTK16, hTK17, hTK18, hTK19, hTK20, hTK21, hTK22, hTK23, hTK24, hTK25, hTK26, hTK27, hTK28, hTK29, hTK30, hTK31, hTK32, hTK33, hTK34, hTK35, hTK36, hTK37, hTK38, hTK39, hTK40, hTK41, hTK42, hTK43, hTK44, hTK45, hTK46, hTK47, hTK48, hTK49, hTK50, hTK51, hTK52, hTK53, hTK54, hTK55, hTK56, hTK57, hTK58, hTK59, hTK60, hTK61, hTK62, hTK63, hTK64, hTK65, hTK66, hTK67, hTK68, hTK69, hTK70, hTK71, hTK72, hTK73, hTK74, hTK75, hTK76, hTK77, hTK78⟩ := hB
  simp only [tn_1_1, tn_1_2, tn_1_3, tn_1_4, tn_1_5, tn_7_1, tn_9_1, tn_9_2, tn_9_3, tn_9_4, tn_9_5, tn_9_6, tn_9_7, tn_9_8, tn_9_9, tn_9_10, tn_9_11, tn_9_12, tn_9_13, tn_9_14, tn_9_15] at A
  simp only [s115_0, s115_1, s115_4, s115_5, s115_8, s115_11, s115_12, s115_15, s115_16, zps_0, zps_1, zps_2, zps_3, zps_9, Option.bind_some, Option.bind_none, Int.reduceEq, Int.reduceNe, Int.reduceLT, Int.reduceLE, Int.reduceNeg, Int.reduceAdd, Int.reduceSub, Int.reduceMul, reduceIte, if_true, if_false, true_and, and_true, false_and, and_false, or_true, true_or, or_false, false_or, not_true_eq_false, not_false_eq_true, ite_not, z_b0, z_b1, z_b01, hTK0, hTK1, hTK2, hTK3, hTK4, hTK5, hTK6, hTK7, hTK8, hTK9, hTK10, hTK11, hTK12, hTK13, hTK14, hTK15, hTK16, hTK17, hTK18, hTK19, hTK20, hTK21, hTK22, hTK23, hTK24, hTK25, hTK26, hTK27, hTK28, hTK29, hTK30, hTK31, hTK32, hTK33, hTK34, hTK35, hTK36, hTK37, hTK38, hTK39, hTK40, hTK41, hTK42, hTK43, hTK44, hTK45, hTK46, hTK47, hTK48, hTK49, hTK50, hTK51, hTK52, hTK53, hTK54, hTK55, hTK56, hTK57, hTK58, hTK59, hTK60, hTK61, hTK62, hTK63, hTK64, hTK65, hTK66, hTK67, hTK68, hTK69, hTK70, hTK71, hTK72, hTK73, hTK74, hTK75, hTK76, hTK77, hTK78, A]
  (repeat' split) <;> first | rfl | (exfalso; omega)
theorem tz_canUse (hB : TK R t) (hV : BV m (t + 1)) {p : Int} (u : Int) (hp : 0 ≤ p ∧ p < m (t + 1) 2) : ev 116 0 [(2, t), (0, p), (0, u)] [] R m = some ((0, if u = 0 ∨ m (t + 2) p = 0 then 1 else 0), R, m) := by
  have A := tz_groundOf (m := m) (TK_B hB) hV p
  obtain ⟨hTK0, hTK1, hTK2, hTK3, hTK4, hTK5, hTK6, hTK7, hTK8, hTK9, hTK10, hTK11, hTK12, hTK13, hTK14, hTK15, hTK16, hTK17, hTK18, hTK19, hTK20, hTK21, hTK22, hTK23, hTK24, hTK25, hTK26, hTK27, hTK28, hTK29, hTK30, hTK31, hTK32, hTK33, hTK34, hTK35, hTK36, hTK37, hTK38, hTK39, hTK40, hTK41, hTK42, hTK43, hTK44, hTK45, hTK46, hTK47, hTK48, hTK49, hTK50, hTK51, hTK52, hTK53, hTK54, hTK55, hTK56, hTK57, hTK58, hTK59, hTK60, hTK61, hTK62, hTK63, hTK64, hTK65, hTK66, hTK67, hTK68, hTK69, hTK70, hTK71, hTK72, hTK73, hTK74, hTK75, hTK76, hTK77, hTK78⟩ := hB
  simp only [tn_1_1, tn_1_2, tn_1_3, tn_1_4, tn_1_5, tn_7_1, tn_9_1, tn_9_2, tn_9_3, tn_9_4, tn_9_5, tn_9_6, tn_9_7, tn_9_8, tn_9_9, tn_9_10, tn_9_11, tn_9_12, tn_9_13, tn_9_14, tn_9_15, hp] at A
  simp only [s116_0, s116_1, s116_4, s116_5, s116_8, s116_9, s116_12, s116_15, s116_16, s116_19, s116_20, zps_0, zps_1, zps_2, zps_3, zps_9, Option.bind_some, Option.bind_none, Int.reduceEq, Int.reduceNe, Int.reduceLT, Int.reduceLE, Int.reduceNeg, Int.reduceAdd, Int.reduceSub, Int.reduceMul, reduceIte, if_true, if_false, true_and, and_true, false_and, and_false, or_true, true_or, or_false, false_or, not_true_eq_false, not_false_eq_true, ite_not, z_b0, z_b1, z_b01, hTK0, hTK1, hTK2, hTK3, hTK4, hTK5, hTK6, hTK7, hTK8, hTK9, hTK10, hTK11, hTK12, hTK13, hTK14, hTK15, hTK16, hTK17, hTK18, hTK19, hTK20, hTK21, hTK22, hTK23, hTK24, hTK25, hTK26, hTK27, hTK28, hTK29, hTK30, hTK31, hTK32, hTK33, hTK34, hTK35, hTK36, hTK37, hTK38, hTK39, hTK40, hTK41, hTK42, hTK43, hTK44, hTK45, hTK46, hTK47, hTK48, hTK49, hTK50, hTK51, hTK52, hTK53, hTK54, hTK55, hTK56, hTK57, hTK58, hTK59, hTK60, hTK61, hTK62, hTK63, hTK64, hTK65, hTK66, hTK67, hTK68, hTK69, hTK70, hTK71, hTK72, hTK73, hTK74, hTK75, hTK76, hTK77, hTK78, A]
  (repeat' split) <;> first | rfl | (exfalso; omega)
theorem tz_tputUse (hB : TK R t) (hV : BV m (t + 1)) (hS : 0 ≤ m (t + 9) 0 ∧ m (t + 9) 0 ≤ 20) {p g : Int} (hp : 0 ≤ p ∧ p < m (t + 1) 2) (hg : 0 ≤ g ∧ g ≤ 3) :
    ∃ m1 : zM, ev 117 0 [(2, t), (0, p), (0, g)] [] R m = some ((0, m (t + 4) p), R, zuput m1 (t + 1) p g) ∧ (((∀ s, 0 ≤ s → s < m (t + 9) 0 → m (t + 14) s ≠ p) ∧ m1 = m) ∨ ∃ r, 0 ≤ r ∧ r < m (t + 9) 0 ∧ m (t + 14) r = p ∧ (∀ s, 0 ≤ s → s < r → m (t + 14) s ≠ p) ∧ m1 = zpr (zpr m (t + 14) (zrw (m (t + 14)) r (-4))) (t + 15) (zrw (m (t + 15)) r 1)) := by
  obtain ⟨r, h1, h2⟩ := tz_sowner (m := m) (TK_S hB) hS p
  have L := tz_sleave (m := m) (TK_S hB) hS.2 r
  have PU := fun (m' : zM) hV' h' => tz_putUse (m := m') (p := p) (g := g) (TK_B hB) hV' h' hg
  obtain ⟨hTK0, hTK1, hTK2, hTK3, hTK4, hTK5, hTK6, hTK7, hTK8, hTK9, hTK10, hTK11, hTK12, hTK13, hTK14, hTK15, hTK16, hTK17, hTK18, hTK19, hTK20, hTK21, hTK22, hTK23, hTK24, hTK25, hTK26, hTK27, hTK28, hTK29, hTK30, hTK31, hTK32, hTK33, hTK34, hTK35, hTK36, hTK37, hTK38, hTK39, hTK40, hTK41, hTK42, hTK43, hTK44, hTK45, hTK46, hTK47, hTK48, hTK49, hTK50, hTK51, hTK52, hTK53, hTK54, hTK55, hTK56, hTK57, hTK58, hTK59, hTK60, hTK61, hTK62, hTK63, hTK64, hTK65, hTK66, hTK67, hTK68, hTK69, hTK70, hTK71, hTK72, hTK73, hTK74, hTK75, hTK76, hTK77, hTK78⟩ := hB
  simp only [tn_1_1, tn_1_2, tn_1_3, tn_1_4, tn_1_5, tn_7_1, tn_9_1, tn_9_2, tn_9_3, tn_9_4, tn_9_5, tn_9_6, tn_9_7, tn_9_8, tn_9_9, tn_9_10, tn_9_11, tn_9_12, tn_9_13, tn_9_14, tn_9_15] at L h2
  simp only [s117_0, s117_1, s117_4, s117_5, s117_8, s117_9, s117_12, s117_15, s117_16, s117_19, s117_20, s117_21, s117_24, zps_0, zps_1, zps_2, zps_3, zps_9, Option.bind_some, Option.bind_none, Int.reduceEq, Int.reduceNe, Int.reduceLT, Int.reduceLE, Int.reduceNeg, Int.reduceAdd, Int.reduceSub, Int.reduceMul, reduceIte, if_true, if_false, true_and, and_true, false_and, and_false, or_true, true_or, or_false, false_or, not_true_eq_false, not_false_eq_true, ite_not, z_b0, z_b1, z_b01, hTK0, hTK1, hTK2, hTK3, hTK4, hTK5, hTK6, hTK7, hTK8, hTK9, hTK10, hTK11, hTK12, hTK13, hTK14, hTK15, hTK16, hTK17, hTK18, hTK19, hTK20, hTK21, hTK22, hTK23, hTK24, hTK25, hTK26, hTK27, hTK28, hTK29, hTK30, hTK31, hTK32, hTK33, hTK34, hTK35, hTK36, hTK37, hTK38, hTK39, hTK40, hTK41, hTK42, hTK43, hTK44, hTK45, hTK46, hTK47, hTK48, hTK49, hTK50, hTK51, hTK52, hTK53, hTK54, hTK55, hTK56, hTK57, hTK58, hTK59, hTK60, hTK61, hTK62, hTK63, hTK64, hTK65, hTK66, hTK67, hTK68, hTK69, hTK70, hTK71, hTK72, hTK73, hTK74, hTK75, hTK76, hTK77, hTK78, h1, L]
  rcases h2 with ⟨h2, h3⟩ | ⟨h2, h3, h4, h5⟩
  · rw [if_neg (by omega), PU m hV hp]
    simp only [s117_0, s117_1, s117_4, s117_5, s117_8, s117_9, s117_12, s117_15, s117_16, s117_19, s117_20, s117_21, s117_24, zps_0, zps_1, zps_2, zps_3, zps_9, Option.bind_some, Option.bind_none, Int.reduceEq, Int.reduceNe, Int.reduceLT, Int.reduceLE, Int.reduceNeg, Int.reduceAdd, Int.reduceSub, Int.reduceMul, reduceIte, if_true, if_false, true_and, and_true, false_and, and_false, or_true, true_or, or_false, false_or, not_true_eq_false, not_false_eq_true, ite_not, z_b0, z_b1, z_b01, tn_1_1, tn_1_2, tn_1_3, tn_1_4, tn_1_5, tn_7_1, tn_9_1, tn_9_2, tn_9_3, tn_9_4, tn_9_5, tn_9_6, tn_9_7, tn_9_8, tn_9_9, tn_9_10, tn_9_11, tn_9_12, tn_9_13, tn_9_14, tn_9_15]
    refine ⟨m, ?_, Or.inl ⟨h3, rfl⟩⟩
    unfold zuput
    simp only [tn_1_1, tn_1_2, tn_1_3, tn_1_4, tn_1_5, tn_7_1, tn_9_1, tn_9_2, tn_9_3, tn_9_4, tn_9_5, tn_9_6, tn_9_7, tn_9_8, tn_9_9, tn_9_10, tn_9_11, tn_9_12, tn_9_13, tn_9_14, tn_9_15]
  · have e1 : zpr (zpr m (t + 14) (zrw (m (t + 14)) r (-4))) (t + 15) (zrw (m (t + 15)) r 1) (t + 1) = m (t + 1) := by rw [zpr_ne (by omega), zpr_ne (by omega)]
    have e4 : zpr (zpr m (t + 14) (zrw (m (t + 14)) r (-4))) (t + 15) (zrw (m (t + 15)) r 1) (t + 4) = m (t + 4) := by rw [zpr_ne (by omega), zpr_ne (by omega)]
    rw [if_pos ⟨h2, h3⟩, PU _ (BV_zpr (by omega) (by omega) (by omega) (by omega) (BV_zpr (by omega) (by omega) (by omega) (by omega) hV)) (by rw [e1]; exact hp)]
    simp only [s117_0, s117_1, s117_4, s117_5, s117_8, s117_9, s117_12, s117_15, s117_16, s117_19, s117_20, s117_21, s117_24, zps_0, zps_1, zps_2, zps_3, zps_9, Option.bind_some, Option.bind_none, Int.reduceEq, Int.reduceNe, Int.reduceLT, Int.reduceLE, Int.reduceNeg, Int.reduceAdd, Int.reduceSub, Int.reduceMul, reduceIte, if_true, if_false, true_and, and_true, false_and, and_false, or_true, true_or, or_false, false_or, not_true_eq_false, not_false_eq_true, ite_not, z_b0, z_b1, z_b01, tn_1_1, tn_1_2, tn_1_3, tn_1_4, tn_1_5, tn_7_1, tn_9_1, tn_9_2, tn_9_3, tn_9_4, tn_9_5, tn_9_6, tn_9_7, tn_9_8, tn_9_9, tn_9_10, tn_9_11, tn_9_12, tn_9_13, tn_9_14, tn_9_15, e4]
    refine ⟨_, ?_, Or.inr ⟨r, h2, h3, h4, h5, rfl⟩⟩
    unfold zuput
    simp only [tn_1_1, tn_1_2, tn_1_3, tn_1_4, tn_1_5, tn_7_1, tn_9_1, tn_9_2, tn_9_3, tn_9_4, tn_9_5, tn_9_6, tn_9_7, tn_9_8, tn_9_9, tn_9_10, tn_9_11, tn_9_12, tn_9_13, tn_9_14, tn_9_15, e4]
theorem tz_remembers (hB : TK R t) (hY : m t 3 ≤ 24) (y : Int) : ev 127 0 [(2, t), (0, y)] [] R m = some ((0, if 0 ≤ y ∧ y < m t 3 then 1 else 0), R, m) := by
  obtain ⟨hTK0, hTK1, hTK2, hTK3, hTK4, hTK5, hTK6, hTK7, hTK8, hTK9, hTK10, hTK11, hTK12, hTK13, hTK14, hTK15, hTK16, hTK17, hTK18, hTK19, hTK20, hTK21, hTK22, hTK23, hTK24, hTK25, hTK26, hTK27, hTK28, hTK29, hTK30, hTK31, hTK32, hTK33, hTK34, hTK35, hTK36, hTK37, hTK38, hTK39, hTK40, hTK41, hTK42, hTK43, hTK44, hTK45, hTK46, hTK47, hTK48, hTK49, hTK50, hTK51, hTK52, hTK53, hTK54, hTK55, hTK56, hTK57, hTK58, hTK59, hTK60, hTK61, hTK62, hTK63, hTK64, hTK65, hTK66, hTK67, hTK68, hTK69, hTK70, hTK71, hTK72, hTK73, hTK74, hTK75, hTK76, hTK77, hTK78⟩ := hB
  simp only [s127_0, s127_1, s127_4, s127_5, s127_6, s127_9, s127_12, s127_13, s127_15, s127_18, s127_19, s127_22, s127_23, zps_0, zps_1, zps_2, zps_3, zps_9, Option.bind_some, Option.bind_none, Int.reduceEq, Int.reduceNe, Int.reduceLT, Int.reduceLE, Int.reduceNeg, Int.reduceAdd, Int.reduceSub, Int.reduceMul, reduceIte, if_true, if_false, true_and, and_true, false_and, and_false, or_true, true_or, or_false, false_or, not_true_eq_false, not_false_eq_true, ite_not, z_b0, z_b1, z_b01, hTK0, hTK1, hTK2, hTK3, hTK4, hTK5, hTK6, hTK7, hTK8, hTK9, hTK10, hTK11, hTK12, hTK13, hTK14, hTK15, hTK16, hTK17, hTK18, hTK19, hTK20, hTK21, hTK22, hTK23, hTK24, hTK25, hTK26, hTK27, hTK28, hTK29, hTK30, hTK31, hTK32, hTK33, hTK34, hTK35, hTK36, hTK37, hTK38, hTK39, hTK40, hTK41, hTK42, hTK43, hTK44, hTK45, hTK46, hTK47, hTK48, hTK49, hTK50, hTK51, hTK52, hTK53, hTK54, hTK55, hTK56, hTK57, hTK58, hTK59, hTK60, hTK61, hTK62, hTK63, hTK64, hTK65, hTK66, hTK67, hTK68, hTK69, hTK70, hTK71, hTK72, hTK73, hTK74, hTK75, hTK76, hTK77, hTK78]
  (repeat' split) <;> first | rfl | (exfalso; omega)
theorem tz_usedIn (hB : TK R t) (hY : m t 3 ≤ 24) (hV : m (t + 1) 2 ≤ 64) {y p : Int} (hy : 0 ≤ y ∧ y < m t 3) (hp : 0 ≤ p ∧ p < m (t + 1) 2) : ev 128 0 [(2, t), (0, y), (0, p)] [] R m = some ((0, m (t + 25) (64 * y + p)), R, m) := by
  have A := tz_remembers (m := m) hB hY y
  have H := tz_has (m := m) (TK_B hB) p
  obtain ⟨hTK0, hTK1, hTK2, hTK3, hTK4, hTK5, hTK6, hTK7, hTK8, hTK9, hTK10, hTK11, hTK12, hTK13, hTK14, hTK15, hTK16, hTK17, hTK18, hTK19, hTK20, hTK21, hTK22, hTK23, hTK24, hTK25, hTK26, hTK27, hTK28, hTK29, hTK30, hTK31, hTK32, hTK33, hTK34, hTK35, hTK36, hTK37, hTK38, hTK39, hTK40, hTK41, hTK42, hTK43, hTK44, hTK45, hTK46, hTK47, hTK48, hTK49, hTK50, hTK51, hTK52, hTK53, hTK54, hTK55, hTK56, hTK57, hTK58, hTK59, hTK60, hTK61, hTK62, hTK63, hTK64, hTK65, hTK66, hTK67, hTK68, hTK69, hTK70, hTK71, hTK72, hTK73, hTK74, hTK75, hTK76, hTK77, hTK78⟩ := hB
  simp only [s128_0, s128_1, s128_2, s128_5, s128_8, s128_9, s128_12, s128_13, s128_16, s128_19, s128_20, s128_23, s128_24, s128_26, s128_27, s128_28, s128_29, s128_30, s128_33, s128_34, zps_0, zps_1, zps_2, zps_3, zps_9, Option.bind_some, Option.bind_none, Int.reduceEq, Int.reduceNe, Int.reduceLT, Int.reduceLE, Int.reduceNeg, Int.reduceAdd, Int.reduceSub, Int.reduceMul, reduceIte, if_true, if_false, true_and, and_true, false_and, and_false, or_true, true_or, or_false, false_or, not_true_eq_false, not_false_eq_true, ite_not, z_b0, z_b1, z_b01, hTK0, hTK1, hTK2, hTK3, hTK4, hTK5, hTK6, hTK7, hTK8, hTK9, hTK10, hTK11, hTK12, hTK13, hTK14, hTK15, hTK16, hTK17, hTK18, hTK19, hTK20, hTK21, hTK22, hTK23, hTK24, hTK25, hTK26, hTK27, hTK28, hTK29, hTK30, hTK31, hTK32, hTK33, hTK34, hTK35, hTK36, hTK37, hTK38, hTK39, hTK40, hTK41, hTK42, hTK43, hTK44, hTK45, hTK46, hTK47, hTK48, hTK49, hTK50, hTK51, hTK52, hTK53, hTK54, hTK55, hTK56, hTK57, hTK58, hTK59, hTK60, hTK61, hTK62, hTK63, hTK64, hTK65, hTK66, hTK67, hTK68, hTK69, hTK70, hTK71, hTK72, hTK73, hTK74, hTK75, hTK76, hTK77, hTK78, A, H, hy, hp]
  rw [zw_i (x := y * 64) (by omega) (by omega), zw_i (by omega) (by omega), if_pos (by omega), Int.mul_comm]
theorem tz_putFigure (hB : TK R t) (hY : 0 ≤ m t 3 ∧ m t 3 < 24) {w : Int} (hw : 0 ≤ w ∧ w ≤ 3) (v : Int) : ev 126 0 [(2, t), (0, w), (0, v)] [] R m = some ((9, 0), R, zpr m (t + 26) (zrw (m (t + 26)) (4 * m t 3 + w) v)) := by
  obtain ⟨hTK0, hTK1, hTK2, hTK3, hTK4, hTK5, hTK6, hTK7, hTK8, hTK9, hTK10, hTK11, hTK12, hTK13, hTK14, hTK15, hTK16, hTK17, hTK18, hTK19, hTK20, hTK21, hTK22, hTK23, hTK24, hTK25, hTK26, hTK27, hTK28, hTK29, hTK30, hTK31, hTK32, hTK33, hTK34, hTK35, hTK36, hTK37, hTK38, hTK39, hTK40, hTK41, hTK42, hTK43, hTK44, hTK45, hTK46, hTK47, hTK48, hTK49, hTK50, hTK51, hTK52, hTK53, hTK54, hTK55, hTK56, hTK57, hTK58, hTK59, hTK60, hTK61, hTK62, hTK63, hTK64, hTK65, hTK66, hTK67, hTK68, hTK69, hTK70, hTK71, hTK72, hTK73, hTK74, hTK75, hTK76, hTK77, hTK78⟩ := hB
  simp only [s126_0, s126_1, s126_4, s126_5, s126_7, s126_10, s126_13, s126_14, s126_15, s126_16, s126_19, s126_22, s126_23, s126_26, s126_27, s126_30, s126_31, s126_32, s126_33, s126_34, s126_35, s126_36, zps_0, zps_1, zps_2, zps_3, zps_9, Option.bind_some, Option.bind_none, Int.reduceEq, Int.reduceNe, Int.reduceLT, Int.reduceLE, Int.reduceNeg, Int.reduceAdd, Int.reduceSub, Int.reduceMul, reduceIte, if_true, if_false, true_and, and_true, false_and, and_false, or_true, true_or, or_false, false_or, not_true_eq_false, not_false_eq_true, ite_not, z_b0, z_b1, z_b01, hTK0, hTK1, hTK2, hTK3, hTK4, hTK5, hTK6, hTK7, hTK8, hTK9, hTK10, hTK11, hTK12, hTK13, hTK14, hTK15, hTK16, hTK17, hTK18, hTK19, hTK20, hTK21, hTK22, hTK23, hTK24, hTK25, hTK26, hTK27, hTK28, hTK29, hTK30, hTK31, hTK32, hTK33, hTK34, hTK35, hTK36, hTK37, hTK38, hTK39, hTK40, hTK41, hTK42, hTK43, hTK44, hTK45, hTK46, hTK47, hTK48, hTK49, hTK50, hTK51, hTK52, hTK53, hTK54, hTK55, hTK56, hTK57, hTK58, hTK59, hTK60, hTK61, hTK62, hTK63, hTK64, hTK65, hTK66, hTK67, hTK68, hTK69, hTK70, hTK71, hTK72, hTK73, hTK74, hTK75, hTK76, hTK77, hTK78, tz_within, hw]
  rw [if_pos (by omega), zw_i (x := m t 3 * 4) (by omega) (by omega), zw_i (x := m t 3 * 4 + w) (by omega) (by omega), if_pos (by omega), Int.mul_comm]
  simp only [zup_zpr, zpr_at, zpr_zpr, zrw_at]
def zsow (n w ln y : Int) (G U L : Int → Int) : Int := zsum (fun p => if U p = 0 then 0 else zworth n w ln y G U L p (U p)) n.toNat
theorem tz_tsow (hB : TK R t) (hG : TG m t) : ev 130 0 [(2, t), (9, 0), (9, 0), (9, 0)] [] R m = some ((0, zsow (m (t + 1) 2) (m (t + 1) 0) (m (t + 7) 0) (m t 3) (m (t + 2)) (m (t + 4)) (m (t + 8))), R, m) := by
  have h64 := hG.1.2.2.2.2.2.1
  have h1 := hG.1.2.2.2.2.2.2.1
  have A := fun p u hp => tz_tworth (m := m) (p := p) hB hG u hp
  have Us := fun p hp => tz_useOf (m := m) (p := p) (TK_B hB) hG.1 hp
  have bd := fun p u => zworth_bd (n := m (t + 1) 2) (w := m (t + 1) 0) (y := m t 3) (G := m (t + 2)) (U := m (t + 4)) (p := p) (u := u) ⟨by omega, h64⟩ hG.2.2.2
  obtain ⟨hTK0, hTK1, hTK2, hTK3, hTK4, hTK5, hTK6, hTK7, hTK8, hTK9, hTK10, hTK11, hTK12, hTK13, hTK14, hTK15, hTK16, hTK17, hTK18, hTK19, hTK20, hTK21, hTK22, hTK23, hTK24, hTK25, hTK26, hTK27, hTK28, hTK29, hTK30, hTK31, hTK32, hTK33, hTK34, hTK35, hTK36, hTK37, hTK38, hTK39, hTK40, hTK41, hTK42, hTK43, hTK44, hTK45, hTK46, hTK47, hTK48, hTK49, hTK50, hTK51, hTK52, hTK53, hTK54, hTK55, hTK56, hTK57, hTK58, hTK59, hTK60, hTK61, hTK62, hTK63, hTK64, hTK65, hTK66, hTK67, hTK68, hTK69, hTK70, hTK71, hTK72, hTK73, hTK74, hTK75, hTK76, hTK77, hTK78⟩ := hB
  simp only [tn_1_1, tn_1_2, tn_1_3, tn_1_4, tn_1_5, tn_7_1, tn_9_1, tn_9_2, tn_9_3, tn_9_4, tn_9_5, tn_9_6, tn_9_7, tn_9_8, tn_9_9, tn_9_10, tn_9_11, tn_9_12, tn_9_13, tn_9_14, tn_9_15] at Us
  simp only [s130_0, s130_1, s130_2, s130_3, s130_5, s130_6, s130_9, s130_12, s130_15, s130_16, s130_19, s130_20, s130_23, s130_24, s130_25, s130_28, s130_29, s130_30, s130_31, s130_32, s130_35, s130_36, s130_37, s130_40, s130_43, s130_44, zps_0, zps_1, zps_2, zps_3, zps_9, Option.bind_some, Option.bind_none, Int.reduceEq, Int.reduceNe, Int.reduceLT, Int.reduceLE, Int.reduceNeg, Int.reduceAdd, Int.reduceSub, Int.reduceMul, reduceIte, if_true, if_false, true_and, and_true, false_and, and_false, or_true, true_or, or_false, false_or, not_true_eq_false, not_false_eq_true, ite_not, z_b0, z_b1, z_b01, hTK0, hTK1, hTK2, hTK3, hTK4, hTK5, hTK6, hTK7, hTK8, hTK9, hTK10, hTK11, hTK12, hTK13, hTK14, hTK15, hTK16, hTK17, hTK18, hTK19, hTK20, hTK21, hTK22, hTK23, hTK24, hTK25, hTK26, hTK27, hTK28, hTK29, hTK30, hTK31, hTK32, hTK33, hTK34, hTK35, hTK36, hTK37, hTK38, hTK39, hTK40, hTK41, hTK42, hTK43, hTK44, hTK45, hTK46, hTK47, hTK48, hTK49, hTK50, hTK51, hTK52, hTK53, hTK54, hTK55, hTK56, hTK57, hTK58, hTK59, hTK60, hTK61, hTK62, hTK63, hTK64, hTK65, hTK66, hTK67, hTK68, hTK69, hTK70, hTK71, hTK72, hTK73, hTK74, hTK75, hTK76, hTK77, hTK78]
  unfold zsow
  generalize hF : (fun p => if m (t + 4) p = 0 then 0 else zworth (m (t + 1) 2) (m (t + 1) 0) (m (t + 7) 0) (m t 3) (m (t + 2)) (m (t + 4)) (m (t + 8)) p (m (t + 4) p)) = F
  have hF2 : ∀ p, F p = if m (t + 4) p = 0 then 0 else zworth (m (t + 1) 2) (m (t + 1) 0) (m (t + 7) 0) (m t 3) (m (t + 2)) (m (t + 4)) (m (t + 8)) p (m (t + 4) p) := fun p => by rw [← hF]
  have bF : ∀ p, -80000 ≤ F p ∧ F p ≤ 80000 := by
    intro p
    rw [hF2]
    split
    · omega
    · exact bd p _
  have bs : ∀ k : Int, 0 ≤ k → k ≤ m (t + 1) 2 → -5120000 ≤ zsum F k.toNat ∧ zsum F k.toNat ≤ 5120000 := by
    intro k h1 h2
    have := zsum_bd (f := F) (n := k.toNat) (lo := -80000) (hi := 80000) (fun j _ _ => bF j)
    omega
  refine zloop (fun r => r = some ((0, zsum F (m (t + 1) 2).toNat), R, m)) (fun p (a : Int × zV) => ev 130 4 [(2, t), (0, a.1), (0, p), a.2] [] R m) (m (t + 1) 2) (fun p a => 0 ≤ p ∧ a.1 = zsum F p.toNat) ?_ ?_ 0 (0, (9, 0)) (by omega) ⟨by omega, rfl⟩
  · intro p ⟨s, l3⟩ hp ⟨hp0, hs⟩ ih
    rw [s130_4]
    simp (disch := omega) only [s130_0, s130_1, s130_2, s130_3, s130_5, s130_6, s130_9, s130_12, s130_15, s130_16, s130_19, s130_20, s130_23, s130_24, s130_25, s130_28, s130_29, s130_30, s130_31, s130_32, s130_35, s130_36, s130_37, s130_40, s130_43, s130_44, zps_0, zps_1, zps_2, zps_3, zps_9, Option.bind_some, Option.bind_none, Int.reduceEq, Int.reduceNe, Int.reduceLT, Int.reduceLE, Int.reduceNeg, Int.reduceAdd, Int.reduceSub, Int.reduceMul, reduceIte, if_true, if_false, true_and, and_true, false_and, and_false, or_true, true_or, or_false, false_or, not_true_eq_false, not_false_eq_true, ite_not, z_b0, z_b1, z_b01, hTK0, hTK1, hTK2, hTK3, hTK4, hTK5, hTK6, hTK7, hTK8, hTK9, hTK10, hTK11, hTK12, hTK13, hTK14, hTK15, hTK16, hTK17, hTK18, hTK19, hTK20, hTK21, hTK22, hTK23, hTK24, hTK25, hTK26, hTK27, hTK28, hTK29, hTK30, hTK31, hTK32, hTK33, hTK34, hTK35, hTK36, hTK37, hTK38, hTK39, hTK40, hTK41, hTK42, hTK43, hTK44, hTK45, hTK46, hTK47, hTK48, hTK49, hTK50, hTK51, hTK52, hTK53, hTK54, hTK55, hTK56, hTK57, hTK58, hTK59, hTK60, hTK61, hTK62, hTK63, hTK64, hTK65, hTK66, hTK67, hTK68, hTK69, hTK70, hTK71, hTK72, hTK73, hTK74, hTK75, hTK76, hTK77, hTK78, if_neg (show ¬ m (t + 1) 2 ≤ p by omega), Us p ⟨hp0, hp⟩, A p _ ⟨hp0, hp⟩, zw_i]
    have b1 := bF p
    have b2 := bs p hp0 (by omega)
    have ih2 := fun a h => ih a ⟨by omega, h⟩
    dsimp only at hs
    rw [zsum_step _ hp0, ← hs] at ih2
    rw [hF2] at b1 ih2
    by_cases hu : m (t + 4) p = 0
    · rw [if_pos hu]
      rw [if_pos hu] at ih2
      exact ih2 (s, (0, m (t + 4) p)) (by simp)
    · rw [if_neg hu] at b1 ih2 ⊢
      rw [zw_i (by omega) (by omega)]
      exact ih2 (_, (0, m (t + 4) p)) rfl
  · intro ⟨s, l3⟩ ⟨hp0, hs⟩
    rw [s130_4]
    simp only [s130_0, s130_1, s130_2, s130_3, s130_5, s130_6, s130_9, s130_12, s130_15, s130_16, s130_19, s130_20, s130_23, s130_24, s130_25, s130_28, s130_29, s130_30, s130_31, s130_32, s130_35, s130_36, s130_37, s130_40, s130_43, s130_44, zps_0, zps_1, zps_2, zps_3, zps_9, Option.bind_some, Option.bind_none, Int.reduceEq, Int.reduceNe, Int.reduceLT, Int.reduceLE, Int.reduceNeg, Int.reduceAdd, Int.reduceSub, Int.reduceMul, reduceIte, if_true, if_false, true_and, and_true, false_and, and_false, or_true, true_or, or_false, false_or, not_true_eq_false, not_false_eq_true, ite_not, z_b0, z_b1, z_b01, hTK0, hTK1, hTK2, hTK3, hTK4, hTK5, hTK6, hTK7, hTK8, hTK9, hTK10, hTK11, hTK12, hTK13, hTK14, hTK15, hTK16, hTK17, hTK18, hTK19, hTK20, hTK21, hTK22, hTK23, hTK24, hTK25, hTK26, hTK27, hTK28, hTK29, hTK30, hTK31, hTK32, hTK33, hTK34, hTK35, hTK36, hTK37, hTK38, hTK39, hTK40, hTK41, hTK42, hTK43, hTK44, hTK45, hTK46, hTK47, hTK48, hTK49, hTK50, hTK51, hTK52, hTK53, hTK54, hTK55, hTK56, hTK57, hTK58, hTK59, hTK60, hTK61, hTK62, hTK63, hTK64, hTK65, hTK66, hTK67, hTK68, hTK69, hTK70, hTK71, hTK72, hTK73, hTK74, hTK75, hTK76, hTK77, hTK78, if_pos (show m (t + 1) 2 ≤ m (t + 1) 2 by omega)]
    rw [← hs]
end TOWN2
