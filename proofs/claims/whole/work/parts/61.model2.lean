/-! the model: limits, what laws add, worths, MAY -/
def zcnd (L : Int → Int) (a u y k : Int) : Prop := L (7 * k) = a ∧ L (7 * k + 2) = u ∧ L (7 * k + 1) ≤ y
theorem znum_max {L : Int → Int} {a u y : Int} : ∀ n : Nat, (∀ k : Int, 0 ≤ k → k < n → 0 ≤ L (7 * k + 1)) → (znum L a u y n = (-1, -1) ∧ ∀ k : Int, 0 ≤ k → k < n → ¬ zcnd L a u y k) ∨ ∃ k : Int, 0 ≤ k ∧ k < n ∧ zcnd L a u y k ∧ znum L a u y n = (L (7 * k + 3), L (7 * k + 1)) ∧ ∀ j : Int, 0 ≤ j → j < n → zcnd L a u y j → L (7 * j + 1) ≤ L (7 * k + 1) := by
  intro n
  induction n with
  | zero => intro _; exact Or.inl ⟨rfl, fun k h1 h2 => by omega⟩
  | succ n ih =>
    intro h0
    have ih := ih (fun k h1 h2 => h0 k h1 (by omega))
    have hn := h0 n (by omega) (by omega)
    simp only [znum]
    rcases ih with ⟨e, hno⟩ | ⟨k, k0, k1, hc, e, hmax⟩
    · rw [e]
      by_cases c : zcnd L a u y n
      · have c2 := c
        unfold zcnd at c2
        rw [if_pos ⟨c2.1, c2.2.1, c2.2.2, by dsimp only; omega⟩]
        refine Or.inr ⟨n, by omega, by omega, c, rfl, fun j j0 j1 hj => ?_⟩
        by_cases ej : j = n
        · subst ej; exact Int.le_refl _
        · exact absurd hj (hno j j0 (by omega))
      · rw [if_neg (fun z => c ⟨z.1, z.2.1, z.2.2.1⟩)]
        refine Or.inl ⟨rfl, fun k k0 k1 => ?_⟩
        by_cases ek : k = n
        · subst ek; exact c
        · exact hno k k0 (by omega)
    · rw [e]
      by_cases c : zcnd L a u y n ∧ L (7 * k + 1) < L (7 * (n : Int) + 1)
      · have c2 := c.1
        unfold zcnd at c2
        rw [if_pos ⟨c2.1, c2.2.1, c2.2.2, c.2⟩]
        refine Or.inr ⟨n, by omega, by omega, c.1, rfl, fun j j0 j1 hj => ?_⟩
        by_cases ej : j = n
        · subst ej; exact Int.le_refl _
        · have := hmax j j0 (by omega) hj
          have := c.2
          omega
      · rw [if_neg (fun z => c ⟨⟨z.1, z.2.1, z.2.2.1⟩, z.2.2.2⟩)]
        refine Or.inr ⟨k, k0, by omega, hc, rfl, fun j j0 j1 hj => ?_⟩
        by_cases ej : j = n
        · subst ej
          by_cases c3 : L (7 * k + 1) < L (7 * (n : Int) + 1)
          · exact absurd ⟨hj, c3⟩ c
          · omega
        · exact hmax j j0 (by omega) hj
theorem zholds_iff {ln : Int} {L : Int → Int} {k y a u : Int} (ha : 2 ≤ a) (h1 : L (7 * k) = a) (h2 : L (7 * k + 2) = u) : zholds ln L k y = true ↔ L (7 * k + 1) ≤ y ∧ ∀ q, 0 ≤ q → q < ln → zcnd L a u y q → L (7 * q + 1) ≤ L (7 * k + 1) := by
  unfold zholds
  rw [Bool.and_eq_true, Bool.or_eq_true, decide_eq_true_eq, decide_eq_true_eq, Bool.not_eq_true', h1, h2]
  have e : ¬ (a = 0 ∨ a = 1) := by omega
  simp only [e, false_or]
  constructor
  · rintro ⟨h3, h4⟩
    refine ⟨h3, fun q q0 q1 hq => ?_⟩
    unfold zcnd at hq
    by_cases c : L (7 * k + 1) < L (7 * q + 1)
    · have := (zany_iff (fun q => decide (L (7 * q) = a ∧ L (7 * q + 2) = u ∧ L (7 * q + 1) ≤ y ∧ L (7 * k + 1) < L (7 * q + 1))) ln.toNat).mpr ⟨q, q0, by omega, by rw [decide_eq_true_eq]; exact ⟨hq.1, hq.2.1, hq.2.2, c⟩⟩
      rw [this] at h4
      cases h4
    · omega
  · rintro ⟨h3, h4⟩
    refine ⟨h3, ?_⟩
    rw [← Bool.not_eq_true]
    intro hx
    obtain ⟨q, q0, q1, hq⟩ := (zany_iff _ _).mp hx
    rw [decide_eq_true_eq] at hq
    have := h4 q q0 (by omega) ⟨hq.1, hq.2.1, hq.2.2.1⟩
    omega
section MODEL2
variable {R m : zM}
theorem tz_mlimit (hM : MK R) {ln : Int} {L : Int → Int} (hL : ML m ln L) {a : Int} (ha : 2 ≤ a) (u y : Int) : ev 260 0 [(2, 100), (0, a), (0, u), (0, y), (9, 0), (9, 0)] [] R m = some ((0, zlmt ln.toNat L a u y), R, m) := by
  have Ho := fun k hk => tz_mholds (R := R) (k := k) hM hL hk y
  obtain ⟨hn, hW, hR⟩ := hL
  have h0 := hW.1
  have hfr : ∀ k : Int, 0 ≤ k → k < ln.toNat → 0 ≤ L (7 * k + 1) := fun k h1 h2 => (hW.2.1 k h1 (by omega)).2.1.1
  have hz : ∀ v : Int, ((v = -4 ∧ ∀ k, 0 ≤ k → k < ln → ¬ (L (7 * k) = a ∧ L (7 * k + 2) = u ∧ zholds ln L k y = true)) ∨ ∃ k, 0 ≤ k ∧ k < ln ∧ (L (7 * k) = a ∧ L (7 * k + 2) = u ∧ zholds ln L k y = true) ∧ v = L (7 * k + 3)) → v = zlmt ln.toNat L a u y := by
    intro v hv
    unfold zlmt
    rcases znum_max (L := L) (a := a) (u := u) (y := y) ln.toNat hfr with ⟨e, hno⟩ | ⟨k, k0, k1, hc, e, hmax⟩
    · rw [e, if_pos (by decide)]
      rcases hv with ⟨hv, -⟩ | ⟨k, k0, k1, ⟨g1, g2, g3⟩, -⟩
      · exact hv
      · exact absurd ⟨g1, g2, ((zholds_iff ha g1 g2).mp g3).1⟩ (hno k k0 (by omega))
    · have hk := hfr k k0 k1
      rw [e, if_neg (by dsimp only; omega)]
      have hh : zholds ln L k y = true := (zholds_iff ha hc.1 hc.2.1).mpr ⟨hc.2.2, fun q q0 q1 hq => hmax q q0 (by omega) hq⟩
      rcases hv with ⟨-, hv⟩ | ⟨j, j0, j1, ⟨g1, g2, g3⟩, hv⟩
      · exact absurd ⟨hc.1, hc.2.1, hh⟩ (hv k k0 (by omega))
      · have g4 := (zholds_iff ha g1 g2).mp g3
        have i1 := g4.2 k k0 (by omega) hc
        have i2 := hmax j j0 (by omega) ⟨g1, g2, g4.1⟩
        have hc1 := hc.1
        have hc2 := hc.2.1
        have ejk : j = k := by
          rcases Int.lt_trichotomy j k with h | h | h
          · exact absurd ⟨by omega, by omega, by omega⟩ (hW.2.2 j k j0 h (by omega) (by omega))
          · exact h
          · exact absurd ⟨by omega, by omega, by omega⟩ (hW.2.2 k j k0 h (by omega) (by omega))
        rw [hv, ejk]
  simp only [s260_0, s260_2, s260_4, s260_5, s260_9, s260_10, s260_13, s260_16, s260_17, s260_20, s260_22, s260_24, s260_25, s260_26, s260_27, s260_30, s260_31, s260_34, s260_36, s260_38, s260_39, s260_40, s260_41, s260_42, s260_43, s260_46, s260_47, s260_49, s260_50, s260_53, s260_56, s260_57, s260_60, s260_62, s260_64, s260_65, s260_66, s260_67, s260_68, s260_71, s260_73, s260_75, s260_78, s260_81, s260_83, zps_0, zps_1, zps_2, zps_3, zps_9, Option.bind_some, Option.bind_none, Int.reduceEq, Int.reduceNe, Int.reduceLT, Int.reduceLE, Int.reduceNeg, Int.reduceAdd, Int.reduceSub, Int.reduceMul, reduceIte, if_true, if_false, true_and, and_true, false_and, and_false, or_true, true_or, or_false, false_or, not_true_eq_false, not_false_eq_true, ite_not, z_b0, z_b1, z_b01]
  refine zloop (fun r => r = some ((0, zlmt ln.toNat L a u y), R, m)) (fun k (v : Int) => ev 260 7 [(2, 100), (0, a), (0, u), (0, y), (0, v), (0, k)] [] R m) ln (fun k v => 0 ≤ k ∧ ((v = -4 ∧ ∀ j, 0 ≤ j → j < k → ¬ (L (7 * j) = a ∧ L (7 * j + 2) = u ∧ zholds ln L j y = true)) ∨ ∃ j, 0 ≤ j ∧ j < k ∧ (L (7 * j) = a ∧ L (7 * j + 2) = u ∧ zholds ln L j y = true) ∧ v = L (7 * j + 3))) ?_ ?_ 0 (-4) (by omega) ⟨by omega, Or.inl ⟨rfl, fun j h1 h2 => by omega⟩⟩
  · intro k v hk ⟨k0', hI⟩ ih
    obtain ⟨j0, j1, j2, j3, j4, j5, j6, j8⟩ := z7 (k := k) ⟨k0', by omega⟩
    obtain ⟨c0, c1, c2, c3, c4, c5, c6⟩ := z7b (k := k) ⟨k0', by omega⟩
    have s0 := RL_0 hR k0' hk
    have s2 := RL_i hR k0' hk 2 (by omega) (by omega) (by omega)
    have s3 := hR k 3 k0' hk (by omega) (by omega)
    have d0 : ¬ ln ≤ k := by omega
    have Hk := Ho k ⟨k0', hk⟩
    rw [s260_7]
    simp only [s260_0, s260_2, s260_4, s260_5, s260_9, s260_10, s260_13, s260_16, s260_17, s260_20, s260_22, s260_24, s260_25, s260_26, s260_27, s260_30, s260_31, s260_34, s260_36, s260_38, s260_39, s260_40, s260_41, s260_42, s260_43, s260_46, s260_47, s260_49, s260_50, s260_53, s260_56, s260_57, s260_60, s260_62, s260_64, s260_65, s260_66, s260_67, s260_68, s260_71, s260_73, s260_75, s260_78, s260_81, s260_83, zps_0, zps_1, zps_2, zps_3, zps_9, Option.bind_some, Option.bind_none, Int.reduceEq, Int.reduceNe, Int.reduceLT, Int.reduceLE, Int.reduceNeg, Int.reduceAdd, Int.reduceSub, Int.reduceMul, reduceIte, if_true, if_false, true_and, and_true, false_and, and_false, or_true, true_or, or_false, false_or, not_true_eq_false, not_false_eq_true, ite_not, z_b0, z_b1, z_b01, rMK0 hM, rMK1 hM, rMK2 hM, rMK3 hM, rMK4 hM, rMK5 hM, rMK6 hM, rMK7 hM, rMK8 hM, rMK9 hM, rMK10 hM, rMK11 hM, rMK12 hM, rMK13 hM, rMK14 hM, rMK15 hM, rMK16 hM, rMK17 hM, rMK18 hM, rMK19 hM, rMK20 hM, rMK21 hM, rMK22 hM, rMK23 hM, rMK24 hM, rMK25 hM, rMK26 hM, rMK27 hM, rMK28 hM, rMK29 hM, rMK30 hM, rMK31 hM, rMK32 hM, rMK33 hM, rMK34 hM, rMK35 hM, rMK36 hM, rMK37 hM, rMK38 hM, rMK39 hM, rMK40 hM, rMK41 hM, rMK42 hM, rMK43 hM, rMK44 hM, rMK45 hM, rMK46 hM, rMK47 hM, rMK48 hM, rMK49 hM, rMK50 hM, rMK51 hM, kMK0, kMK1, kMK2, kMK3, kMK4, kMK5, kMK6, kMK7, kMK8, kMK9, kMK10, kMK11, kMK12, kMK13, kMK14, kMK15, kMK16, kMK17, kMK18, kMK19, kMK20, kMK21, kMK22, kMK23, kMK24, kMK25, kMK26, kMK27, kMK28, kMK29, kMK30, kMK31, kMK32, kMK33, kMK34, kMK35, kMK36, kMK37, kMK38, kMK39, kMK40, kMK41, kMK42, kMK43, kMK44, kMK45, kMK46, kMK47, kMK48, kMK49, kMK50, kMK51, kMK52, kMK53, kMK54, kMK55, kMK56, kMK57, kMK58, kMK59, kMK60, kMK61, kMK62, kMK63, kMK64, kMK65, kMK66, kMK67, kMK68, kMK69, kMK70, kMK71, kMK72, kMK73, kMK74, kMK75, kMK76, kMK77, kMK78, kMK79, kMK80, kMK81, kMK82, kMK83, kMK84, kMK85, kMK86, kMK87, kMK88, kMK89, kMK90, kMK91, kMK92, kMK93, kMK94, kMK95, kMK96, kMK97, kMK98, kMK99, kMK100, kMK101, kMK102, kMK103, kMK104, hn, d0, j0, j2, j3, j8, c0, c2, c3, s0, s2, Hk]
    have no : ¬ (L (7 * k) = a ∧ L (7 * k + 2) = u ∧ zholds ln L k y = true) → (fun r => r = some ((0, zlmt ln.toNat L a u y), R, m)) (ev 260 7 [(2, 100), (0, a), (0, u), (0, y), (0, v), (0, k + 1)] [] R m) := by
      intro hno
      refine ih v ⟨by omega, ?_⟩
      rcases hI with ⟨h1, h2⟩ | ⟨j, h1, h2, h3⟩
      · refine Or.inl ⟨h1, fun j q0 q1 => ?_⟩
        by_cases e : j = k
        · subst e; exact hno
        · exact h2 j q0 (by omega)
      · exact Or.inr ⟨j, h1, by omega, h3⟩
    by_cases g1 : L (7 * k) = a
    · rw [if_pos g1]
      by_cases g2 : L (7 * k + 2) = u
      · rw [if_pos g2]
        by_cases g3 : zholds ln L k y = true
        · rw [if_pos g3]
          rw [if_neg (by omega), Int.add_zero] at s3
          refine ih _ ⟨by omega, Or.inr ⟨k, k0', by omega, ⟨g1, g2, g3⟩, s3⟩⟩
        · rw [if_neg g3]; exact no (fun z => g3 z.2.2)
      · rw [if_neg g2]; exact no (fun z => g2 z.2.1)
    · rw [if_neg g1]; exact no (fun z => g1 z.1)
  · intro v ⟨k0', hI⟩
    have d0 : ln ≤ ln := Int.le_refl _
    rw [s260_7]
    simp only [s260_0, s260_2, s260_4, s260_5, s260_9, s260_10, s260_13, s260_16, s260_17, s260_20, s260_22, s260_24, s260_25, s260_26, s260_27, s260_30, s260_31, s260_34, s260_36, s260_38, s260_39, s260_40, s260_41, s260_42, s260_43, s260_46, s260_47, s260_49, s260_50, s260_53, s260_56, s260_57, s260_60, s260_62, s260_64, s260_65, s260_66, s260_67, s260_68, s260_71, s260_73, s260_75, s260_78, s260_81, s260_83, zps_0, zps_1, zps_2, zps_3, zps_9, Option.bind_some, Option.bind_none, Int.reduceEq, Int.reduceNe, Int.reduceLT, Int.reduceLE, Int.reduceNeg, Int.reduceAdd, Int.reduceSub, Int.reduceMul, reduceIte, if_true, if_false, true_and, and_true, false_and, and_false, or_true, true_or, or_false, false_or, not_true_eq_false, not_false_eq_true, ite_not, z_b0, z_b1, z_b01, rMK0 hM, rMK1 hM, rMK2 hM, rMK3 hM, rMK4 hM, rMK5 hM, rMK6 hM, rMK7 hM, rMK8 hM, rMK9 hM, rMK10 hM, rMK11 hM, rMK12 hM, rMK13 hM, rMK14 hM, rMK15 hM, rMK16 hM, rMK17 hM, rMK18 hM, rMK19 hM, rMK20 hM, rMK21 hM, rMK22 hM, rMK23 hM, rMK24 hM, rMK25 hM, rMK26 hM, rMK27 hM, rMK28 hM, rMK29 hM, rMK30 hM, rMK31 hM, rMK32 hM, rMK33 hM, rMK34 hM, rMK35 hM, rMK36 hM, rMK37 hM, rMK38 hM, rMK39 hM, rMK40 hM, rMK41 hM, rMK42 hM, rMK43 hM, rMK44 hM, rMK45 hM, rMK46 hM, rMK47 hM, rMK48 hM, rMK49 hM, rMK50 hM, rMK51 hM, kMK0, kMK1, kMK2, kMK3, kMK4, kMK5, kMK6, kMK7, kMK8, kMK9, kMK10, kMK11, kMK12, kMK13, kMK14, kMK15, kMK16, kMK17, kMK18, kMK19, kMK20, kMK21, kMK22, kMK23, kMK24, kMK25, kMK26, kMK27, kMK28, kMK29, kMK30, kMK31, kMK32, kMK33, kMK34, kMK35, kMK36, kMK37, kMK38, kMK39, kMK40, kMK41, kMK42, kMK43, kMK44, kMK45, kMK46, kMK47, kMK48, kMK49, kMK50, kMK51, kMK52, kMK53, kMK54, kMK55, kMK56, kMK57, kMK58, kMK59, kMK60, kMK61, kMK62, kMK63, kMK64, kMK65, kMK66, kMK67, kMK68, kMK69, kMK70, kMK71, kMK72, kMK73, kMK74, kMK75, kMK76, kMK77, kMK78, kMK79, kMK80, kMK81, kMK82, kMK83, kMK84, kMK85, kMK86, kMK87, kMK88, kMK89, kMK90, kMK91, kMK92, kMK93, kMK94, kMK95, kMK96, kMK97, kMK98, kMK99, kMK100, kMK101, kMK102, kMK103, kMK104, hn, d0]
    rw [hz v hI]
theorem tz_madds (hM : MK R) (hV : MV m) {ln : Int} {L : Int → Int} (hL : ML m ln L) {k p : Int} (hk : 0 ≤ k ∧ k < ln) (hp : 0 ≤ p ∧ p < mN m) (u y : Int) : ev 255 0 [(2, 100), (0, k), (0, p), (0, u), (0, y), (9, 0), (9, 0), (9, 0), (9, 0)] [] R m = some ((0, zadds (mN m) (m 100 0) (m 101) (m 103) L y p u k), R, m) := by
  have Ho := tz_mholds (R := R) (k := k) hM hL hk y
  have Fa := fun q hq => tz_mfar (R := R) (p := p) (q := q) hM hV hp hq
  have Pl := tz_plots (R := R) hM hV
  have hN := MV_n hV
  obtain ⟨hn, hW, hR⟩ := hL
  have h0 := hW.1
  have hbd := zadds_bd (n := mN m) (w := m 100 0) (y := y) (G := m 101) (U := m 103) (p := p) (u := u) ⟨by omega, hN.2⟩ hW hk
  obtain ⟨k0, k1, k2, k3, k4, k5, k6, k8⟩ := z7 (k := k) ⟨hk.1, by omega⟩
  obtain ⟨b0, b1, b2, b3, b4, b5, b6⟩ := z7b (k := k) ⟨hk.1, by omega⟩
  have r0 := RL_0 hR hk.1 hk.2
  have r2 := RL_i hR hk.1 hk.2 2 (by omega) (by omega) (by omega)
  have r4 := RL_i hR hk.1 hk.2 4 (by omega) (by omega) (by omega)
  have r5 := RL_i hR hk.1 hk.2 5 (by omega) (by omega) (by omega)
  have r3 := hR k 3 hk.1 hk.2 (by omega) (by omega)
  have hkl := hW.2.1 k hk.1 hk.2
  unfold zadds at hbd ⊢
  simp only [s255_0, s255_1, s255_4, s255_6, s255_7, s255_8, s255_9, s255_10, s255_13, s255_14, s255_17, s255_19, s255_20, s255_21, s255_22, s255_23, s255_24, s255_25, s255_28, s255_29, s255_30, s255_32, s255_35, s255_38, s255_39, s255_40, s255_41, s255_44, s255_46, s255_47, s255_48, s255_49, s255_50, s255_51, s255_53, s255_54, s255_56, s255_57, s255_61, s255_62, s255_65, s255_68, s255_70, s255_71, s255_74, s255_75, s255_78, s255_80, s255_81, s255_83, s255_86, s255_87, s255_90, s255_91, s255_94, s255_95, s255_98, s255_100, s255_101, s255_103, s255_104, s255_105, s255_108, s255_109, s255_112, s255_113, s255_115, s255_117, s255_119, s255_120, s255_123, s255_125, s255_128, s255_129, s255_130, s255_132, s255_135, s255_136, s255_139, s255_141, s255_142, s255_143, s255_144, s255_145, s255_146, s255_149, s255_150, s255_153, s255_154, s255_155, s255_157, s255_160, s255_163, s255_165, s255_166, s255_169, s255_171, s255_172, s255_173, s255_174, s255_175, s255_176, s255_177, zps_0, zps_1, zps_2, zps_3, zps_9, Option.bind_some, Option.bind_none, Int.reduceEq, Int.reduceNe, Int.reduceLT, Int.reduceLE, Int.reduceNeg, Int.reduceAdd, Int.reduceSub, Int.reduceMul, reduceIte, if_true, if_false, true_and, and_true, false_and, and_false, or_true, true_or, or_false, false_or, not_true_eq_false, not_false_eq_true, ite_not, z_b0, z_b1, z_b01, rMK0 hM, rMK1 hM, rMK2 hM, rMK3 hM, rMK4 hM, rMK5 hM, rMK6 hM, rMK7 hM, rMK8 hM, rMK9 hM, rMK10 hM, rMK11 hM, rMK12 hM, rMK13 hM, rMK14 hM, rMK15 hM, rMK16 hM, rMK17 hM, rMK18 hM, rMK19 hM, rMK20 hM, rMK21 hM, rMK22 hM, rMK23 hM, rMK24 hM, rMK25 hM, rMK26 hM, rMK27 hM, rMK28 hM, rMK29 hM, rMK30 hM, rMK31 hM, rMK32 hM, rMK33 hM, rMK34 hM, rMK35 hM, rMK36 hM, rMK37 hM, rMK38 hM, rMK39 hM, rMK40 hM, rMK41 hM, rMK42 hM, rMK43 hM, rMK44 hM, rMK45 hM, rMK46 hM, rMK47 hM, rMK48 hM, rMK49 hM, rMK50 hM, rMK51 hM, kMK0, kMK1, kMK2, kMK3, kMK4, kMK5, kMK6, kMK7, kMK8, kMK9, kMK10, kMK11, kMK12, kMK13, kMK14, kMK15, kMK16, kMK17, kMK18, kMK19, kMK20, kMK21, kMK22, kMK23, kMK24, kMK25, kMK26, kMK27, kMK28, kMK29, kMK30, kMK31, kMK32, kMK33, kMK34, kMK35, kMK36, kMK37, kMK38, kMK39, kMK40, kMK41, kMK42, kMK43, kMK44, kMK45, kMK46, kMK47, kMK48, kMK49, kMK50, kMK51, kMK52, kMK53, kMK54, kMK55, kMK56, kMK57, kMK58, kMK59, kMK60, kMK61, kMK62, kMK63, kMK64, kMK65, kMK66, kMK67, kMK68, kMK69, kMK70, kMK71, kMK72, kMK73, kMK74, kMK75, kMK76, kMK77, kMK78, kMK79, kMK80, kMK81, kMK82, kMK83, kMK84, kMK85, kMK86, kMK87, kMK88, kMK89, kMK90, kMK91, kMK92, kMK93, kMK94, kMK95, kMK96, kMK97, kMK98, kMK99, kMK100, kMK101, kMK102, kMK103, kMK104, k0, k2, k3, b0, b2, b3, r0, r2, Ho]
  by_cases g1 : L (7 * k) = 1
  · rw [if_pos g1]
    by_cases g2 : L (7 * k + 2) = u
    · rw [if_pos g2]
      by_cases g3 : zholds ln L k y = true
      · have g3' : L (7 * k + 1) ≤ y := by
          unfold zholds at g3
          rw [Bool.and_eq_true, decide_eq_true_eq] at g3
          exact g3.1
        rw [if_pos ⟨g1, g2, g3'⟩] at hbd
        rw [if_pos g3, if_pos ⟨g1, g2, g3'⟩]
        rw [if_pos ⟨rfl, g1⟩] at r3
        have hw := hkl.2.2.2.1 g1
        rw [r3]
        have hzb := zwish_bd (mN m) (m 100 0) (m 101) (m 103) p (L (7 * k + 4)) (L (7 * k + 3)) (by omega)
        obtain ⟨Z, hZ⟩ : ∃ Z : Int → Bool, ∀ q, Z q = (decide (1 ≤ zfar (m 100 0) p q ∧ zfar (m 100 0) p q ≤ L (7 * k + 4)) && zthing (m 101) (m 103) (L (7 * k + 3)) q) := ⟨_, fun _ => rfl⟩
        have hZ2 : zwish (mN m) (m 100 0) (m 101) (m 103) p (L (7 * k + 4)) (L (7 * k + 3)) = zcnt Z (mN m).toNat := zcnt_congr (fun q _ _ => (hZ q).symm)
        rw [hZ2] at hbd ⊢
        generalize hT : L (7 * k + 3) = T at *
        refine zloop (fun r => r = some ((0, L (7 * k + 5) * zcnt Z (mN m).toNat), R, m)) (fun q (s : Int × zV) => ev 255 59 [(2, 100), (0, k), (0, p), (0, u), (0, y), (0, T + 1), (0, s.1), (0, q), s.2] [] R m) (mN m) (fun q s => 0 ≤ q ∧ s.1 = zcnt Z q.toNat) ?_ ?_ 0 (0, (9, 0)) (by omega) ⟨by omega, rfl⟩
        · intro q ⟨s, l8⟩ hq ⟨q0, hI⟩ ih
          have d0 : ¬ mN m ≤ q := by omega
          have q1 : zw (q + 1) = q + 1 := zw_i (by omega) (by omega)
          have cb := zcnt_bd Z q.toNat
          have ih2 := fun a h => ih a ⟨by omega, h⟩
          dsimp only at hI
          rw [zcnt_step _ q0, hZ, ← hI] at ih2
          rw [← hI] at cb
          have s0 : zw (s + 0) = s := by rw [Int.add_zero]; exact zw_i (by omega) (by omega)
          have s1 : zw (s + 1) = s + 1 := zw_i (by omega) (by omega)
          have c64 : 0 ≤ q ∧ q < 64 := by omega
          have t3 : zw (T + 1 - 3) = T - 2 := by rw [zw_i (by omega) (by omega)]; omega
          have hf0 := zfar_0 (h := m 100 1) hV.1.1 hp.1 hp.2 q0 hq
          rw [s255_59]
          simp only [s255_0, s255_1, s255_4, s255_6, s255_7, s255_8, s255_9, s255_10, s255_13, s255_14, s255_17, s255_19, s255_20, s255_21, s255_22, s255_23, s255_24, s255_25, s255_28, s255_29, s255_30, s255_32, s255_35, s255_38, s255_39, s255_40, s255_41, s255_44, s255_46, s255_47, s255_48, s255_49, s255_50, s255_51, s255_53, s255_54, s255_56, s255_57, s255_61, s255_62, s255_65, s255_68, s255_70, s255_71, s255_74, s255_75, s255_78, s255_80, s255_81, s255_83, s255_86, s255_87, s255_90, s255_91, s255_94, s255_95, s255_98, s255_100, s255_101, s255_103, s255_104, s255_105, s255_108, s255_109, s255_112, s255_113, s255_115, s255_117, s255_119, s255_120, s255_123, s255_125, s255_128, s255_129, s255_130, s255_132, s255_135, s255_136, s255_139, s255_141, s255_142, s255_143, s255_144, s255_145, s255_146, s255_149, s255_150, s255_153, s255_154, s255_155, s255_157, s255_160, s255_163, s255_165, s255_166, s255_169, s255_171, s255_172, s255_173, s255_174, s255_175, s255_176, s255_177, zps_0, zps_1, zps_2, zps_3, zps_9, Option.bind_some, Option.bind_none, Int.reduceEq, Int.reduceNe, Int.reduceLT, Int.reduceLE, Int.reduceNeg, Int.reduceAdd, Int.reduceSub, Int.reduceMul, reduceIte, if_true, if_false, true_and, and_true, false_and, and_false, or_true, true_or, or_false, false_or, not_true_eq_false, not_false_eq_true, ite_not, z_b0, z_b1, z_b01, rMK0 hM, rMK1 hM, rMK2 hM, rMK3 hM, rMK4 hM, rMK5 hM, rMK6 hM, rMK7 hM, rMK8 hM, rMK9 hM, rMK10 hM, rMK11 hM, rMK12 hM, rMK13 hM, rMK14 hM, rMK15 hM, rMK16 hM, rMK17 hM, rMK18 hM, rMK19 hM, rMK20 hM, rMK21 hM, rMK22 hM, rMK23 hM, rMK24 hM, rMK25 hM, rMK26 hM, rMK27 hM, rMK28 hM, rMK29 hM, rMK30 hM, rMK31 hM, rMK32 hM, rMK33 hM, rMK34 hM, rMK35 hM, rMK36 hM, rMK37 hM, rMK38 hM, rMK39 hM, rMK40 hM, rMK41 hM, rMK42 hM, rMK43 hM, rMK44 hM, rMK45 hM, rMK46 hM, rMK47 hM, rMK48 hM, rMK49 hM, rMK50 hM, rMK51 hM, kMK0, kMK1, kMK2, kMK3, kMK4, kMK5, kMK6, kMK7, kMK8, kMK9, kMK10, kMK11, kMK12, kMK13, kMK14, kMK15, kMK16, kMK17, kMK18, kMK19, kMK20, kMK21, kMK22, kMK23, kMK24, kMK25, kMK26, kMK27, kMK28, kMK29, kMK30, kMK31, kMK32, kMK33, kMK34, kMK35, kMK36, kMK37, kMK38, kMK39, kMK40, kMK41, kMK42, kMK43, kMK44, kMK45, kMK46, kMK47, kMK48, kMK49, kMK50, kMK51, kMK52, kMK53, kMK54, kMK55, kMK56, kMK57, kMK58, kMK59, kMK60, kMK61, kMK62, kMK63, kMK64, kMK65, kMK66, kMK67, kMK68, kMK69, kMK70, kMK71, kMK72, kMK73, kMK74, kMK75, kMK76, kMK77, kMK78, kMK79, kMK80, kMK81, kMK82, kMK83, kMK84, kMK85, kMK86, kMK87, kMK88, kMK89, kMK90, kMK91, kMK92, kMK93, kMK94, kMK95, kMK96, kMK97, kMK98, kMK99, kMK100, kMK101, kMK102, kMK103, kMK104, Pl, d0, Fa q ⟨q0, hq⟩, k0, k4, b4, r4, q1, s0, s1, c64, t3]
          have fin : ∀ b : Bool, zthing (m 101) (m 103) T q = b → (if q = p then ev 255 59 [(2, 100), (0, k), (0, p), (0, u), (0, y), (0, T + 1), (0, s), (0, q + 1), (0, if b = true then 1 else 0)] [] R m else if b = true then (if L (7 * k + 4) < zfar (m 100 0) p q then ev 255 59 [(2, 100), (0, k), (0, p), (0, u), (0, y), (0, T + 1), (0, s), (0, q + 1), (0, if b = true then 1 else 0)] [] R m else ev 255 59 [(2, 100), (0, k), (0, p), (0, u), (0, y), (0, T + 1), (0, s + 1), (0, q + 1), (0, if b = true then 1 else 0)] [] R m) else ev 255 59 [(2, 100), (0, k), (0, p), (0, u), (0, y), (0, T + 1), (0, s), (0, q + 1), (0, if b = true then 1 else 0)] [] R m) = some ((0, L (7 * k + 5) * zcnt Z (mN m).toNat), R, m) := by
            intro b hb
            rw [hb] at ih2
            by_cases e1 : q = p
            · rw [if_pos e1]
              exact ih2 (s, _) (by
                have : ¬ 1 ≤ zfar (m 100 0) p q := fun z => (hf0.mp z) e1
                simp [this])
            · rw [if_neg e1]
              have f1 : 1 ≤ zfar (m 100 0) p q := hf0.mpr e1
              cases b
              · exact ih2 (s, _) (by simp)
              · simp only [if_true, reduceIte]
                by_cases e2 : L (7 * k + 4) < zfar (m 100 0) p q
                · rw [if_pos e2]
                  exact ih2 (s, _) (by
                    have : ¬ zfar (m 100 0) p q ≤ L (7 * k + 4) := by omega
                    simp [this])
                · rw [if_neg e2]
                  exact ih2 (s + 1, _) (by
                    have : zfar (m 100 0) p q ≤ L (7 * k + 4) := by omega
                    simp [f1, this])
          unfold zthing at fin
          by_cases gt : T + 1 < 4
          · simp (disch := omega) only [if_neg, if_pos] at fin ⊢
            by_cases gu : m 103 q = T + 1
            · have f := fin true (by rw [decide_eq_true_eq]; exact gu)
              simp only [gu, zps_0, zps_1, zps_2, zps_3, zps_9, Option.bind_some, Option.bind_none, Int.reduceEq, Int.reduceNe, Int.reduceLT, Int.reduceLE, Int.reduceNeg, Int.reduceAdd, Int.reduceSub, Int.reduceMul, reduceIte, if_true, if_false, true_and, and_true, false_and, and_false, or_true, true_or, or_false, false_or, not_true_eq_false, not_false_eq_true, ite_not, z_b0, z_b1, z_b01] at f ⊢
              exact f
            · have f := fin false (by rw [decide_eq_false_iff_not]; exact gu)
              simp only [gu, zps_0, zps_1, zps_2, zps_3, zps_9, Option.bind_some, Option.bind_none, Int.reduceEq, Int.reduceNe, Int.reduceLT, Int.reduceLE, Int.reduceNeg, Int.reduceAdd, Int.reduceSub, Int.reduceMul, reduceIte, if_true, if_false, true_and, and_true, false_and, and_false, or_true, true_or, or_false, false_or, not_true_eq_false, not_false_eq_true, ite_not, z_b0, z_b1, z_b01, Bool.false_eq_true] at f ⊢
              exact f
          · simp (disch := omega) only [if_neg, if_pos] at fin ⊢
            by_cases gu : m 101 q = T - 2
            · have f := fin true (by rw [decide_eq_true_eq]; exact gu)
              simp only [gu, zps_0, zps_1, zps_2, zps_3, zps_9, Option.bind_some, Option.bind_none, Int.reduceEq, Int.reduceNe, Int.reduceLT, Int.reduceLE, Int.reduceNeg, Int.reduceAdd, Int.reduceSub, Int.reduceMul, reduceIte, if_true, if_false, true_and, and_true, false_and, and_false, or_true, true_or, or_false, false_or, not_true_eq_false, not_false_eq_true, ite_not, z_b0, z_b1, z_b01] at f ⊢
              exact f
            · have f := fin false (by rw [decide_eq_false_iff_not]; exact gu)
              simp only [gu, zps_0, zps_1, zps_2, zps_3, zps_9, Option.bind_some, Option.bind_none, Int.reduceEq, Int.reduceNe, Int.reduceLT, Int.reduceLE, Int.reduceNeg, Int.reduceAdd, Int.reduceSub, Int.reduceMul, reduceIte, if_true, if_false, true_and, and_true, false_and, and_false, or_true, true_or, or_false, false_or, not_true_eq_false, not_false_eq_true, ite_not, z_b0, z_b1, z_b01, Bool.false_eq_true] at f ⊢
              exact f
        · intro ⟨s, l8⟩ ⟨q0, hI⟩
          dsimp only at hI
          have d0 : mN m ≤ mN m := Int.le_refl _
          have e : zw (s * L (7 * k + 5)) = L (7 * k + 5) * zcnt Z (mN m).toNat := by
            rw [hI, Int.mul_comm]
            exact zw_i (by omega) (by omega)
          rw [s255_59]
          simp only [s255_0, s255_1, s255_4, s255_6, s255_7, s255_8, s255_9, s255_10, s255_13, s255_14, s255_17, s255_19, s255_20, s255_21, s255_22, s255_23, s255_24, s255_25, s255_28, s255_29, s255_30, s255_32, s255_35, s255_38, s255_39, s255_40, s255_41, s255_44, s255_46, s255_47, s255_48, s255_49, s255_50, s255_51, s255_53, s255_54, s255_56, s255_57, s255_61, s255_62, s255_65, s255_68, s255_70, s255_71, s255_74, s255_75, s255_78, s255_80, s255_81, s255_83, s255_86, s255_87, s255_90, s255_91, s255_94, s255_95, s255_98, s255_100, s255_101, s255_103, s255_104, s255_105, s255_108, s255_109, s255_112, s255_113, s255_115, s255_117, s255_119, s255_120, s255_123, s255_125, s255_128, s255_129, s255_130, s255_132, s255_135, s255_136, s255_139, s255_141, s255_142, s255_143, s255_144, s255_145, s255_146, s255_149, s255_150, s255_153, s255_154, s255_155, s255_157, s255_160, s255_163, s255_165, s255_166, s255_169, s255_171, s255_172, s255_173, s255_174, s255_175, s255_176, s255_177, zps_0, zps_1, zps_2, zps_3, zps_9, Option.bind_some, Option.bind_none, Int.reduceEq, Int.reduceNe, Int.reduceLT, Int.reduceLE, Int.reduceNeg, Int.reduceAdd, Int.reduceSub, Int.reduceMul, reduceIte, if_true, if_false, true_and, and_true, false_and, and_false, or_true, true_or, or_false, false_or, not_true_eq_false, not_false_eq_true, ite_not, z_b0, z_b1, z_b01, rMK0 hM, rMK1 hM, rMK2 hM, rMK3 hM, rMK4 hM, rMK5 hM, rMK6 hM, rMK7 hM, rMK8 hM, rMK9 hM, rMK10 hM, rMK11 hM, rMK12 hM, rMK13 hM, rMK14 hM, rMK15 hM, rMK16 hM, rMK17 hM, rMK18 hM, rMK19 hM, rMK20 hM, rMK21 hM, rMK22 hM, rMK23 hM, rMK24 hM, rMK25 hM, rMK26 hM, rMK27 hM, rMK28 hM, rMK29 hM, rMK30 hM, rMK31 hM, rMK32 hM, rMK33 hM, rMK34 hM, rMK35 hM, rMK36 hM, rMK37 hM, rMK38 hM, rMK39 hM, rMK40 hM, rMK41 hM, rMK42 hM, rMK43 hM, rMK44 hM, rMK45 hM, rMK46 hM, rMK47 hM, rMK48 hM, rMK49 hM, rMK50 hM, rMK51 hM, kMK0, kMK1, kMK2, kMK3, kMK4, kMK5, kMK6, kMK7, kMK8, kMK9, kMK10, kMK11, kMK12, kMK13, kMK14, kMK15, kMK16, kMK17, kMK18, kMK19, kMK20, kMK21, kMK22, kMK23, kMK24, kMK25, kMK26, kMK27, kMK28, kMK29, kMK30, kMK31, kMK32, kMK33, kMK34, kMK35, kMK36, kMK37, kMK38, kMK39, kMK40, kMK41, kMK42, kMK43, kMK44, kMK45, kMK46, kMK47, kMK48, kMK49, kMK50, kMK51, kMK52, kMK53, kMK54, kMK55, kMK56, kMK57, kMK58, kMK59, kMK60, kMK61, kMK62, kMK63, kMK64, kMK65, kMK66, kMK67, kMK68, kMK69, kMK70, kMK71, kMK72, kMK73, kMK74, kMK75, kMK76, kMK77, kMK78, kMK79, kMK80, kMK81, kMK82, kMK83, kMK84, kMK85, kMK86, kMK87, kMK88, kMK89, kMK90, kMK91, kMK92, kMK93, kMK94, kMK95, kMK96, kMK97, kMK98, kMK99, kMK100, kMK101, kMK102, kMK103, kMK104, Pl, d0, k0, k5, b5, r5, e]
      · have g3' : ¬ L (7 * k + 1) ≤ y := by
          intro z
          apply g3
          unfold zholds
          simp [g1, z]
        rw [if_neg g3, if_neg (fun z => g3' z.2.2)]
    · rw [if_neg g2, if_neg (fun z => g2 z.2.1)]
  · rw [if_neg g1, if_neg (fun z => g1 z.1)]
end MODEL2
