/-! the model: plots, laws that hold, worths -/
def mN (m : zM) : Int := m 100 0 * m 100 1
def MV (m : zM) : Prop := (1 ≤ m 100 0 ∧ m 100 0 ≤ 8) ∧ (1 ≤ m 100 1 ∧ m 100 1 ≤ 8) ∧ ∀ p, 0 ≤ p → p < mN m → (0 ≤ m 101 p ∧ m 101 p ≤ 2) ∧ (0 ≤ m 102 p ∧ m 102 p ≤ 9) ∧ (0 ≤ m 103 p ∧ m 103 p ≤ 3)
theorem MV_n {m : zM} (h : MV m) : 1 ≤ mN m ∧ mN m ≤ 64 := zwh h.1.1 h.1.2 h.2.1.1 h.2.1.2
/-- the model's rows of laws against the class's -/
def RL (n : Int) (L L' : Int → Int) : Prop := ∀ k i, 0 ≤ k → k < n → 0 ≤ i → i < 7 → L' (7 * k + i) = L (7 * k + i) + if i = 3 ∧ L (7 * k) = 1 then 1 else 0
theorem RL_0 {n : Int} {L L' : Int → Int} (h : RL n L L') {k : Int} (h0 : 0 ≤ k) (h1 : k < n) : L' (7 * k) = L (7 * k) := by
  have := h k 0 h0 h1 (by omega) (by omega)
  rw [if_neg (by omega), Int.add_zero, Int.add_zero] at this
  exact this
theorem RL_i {n : Int} {L L' : Int → Int} (h : RL n L L') {k : Int} (h0 : 0 ≤ k) (h1 : k < n) (i : Int) (h2 : 0 ≤ i) (h3 : i < 7) (h4 : i ≠ 3) : L' (7 * k + i) = L (7 * k + i) := by
  have := h k i h0 h1 h2 h3
  rw [if_neg (by omega), Int.add_zero] at this
  exact this
def zlmt (n : Nat) (L : Int → Int) (a u y : Int) : Int := if (znum L a u y n).2 < 0 then -4 else (znum L a u y n).1
theorem z_em (c : Prop) : (¬ c ∨ c) = True := by simp [Classical.em, or_comm, Classical.or_iff_not_imp_left]
section MODEL1
variable {R m : zM}
theorem tz_in (v l h : Int) : ev 229 0 [(1, v), (8, 0), (1, l), (8, 0), (1, h), (8, 0)] [] R m = some ((0, if l ≤ v ∧ v ≤ h then 1 else 0), R, m) := by
  simp only [s229_0, s229_1, s229_2, s229_3, s229_6, s229_7, s229_9, s229_10, s229_13, s229_14, s229_17, s229_18, zps_0, zps_1, zps_2, zps_3, zps_9, Option.bind_some, Option.bind_none, Int.reduceEq, Int.reduceNe, Int.reduceLT, Int.reduceLE, Int.reduceNeg, Int.reduceAdd, Int.reduceSub, Int.reduceMul, reduceIte, if_true, if_false, true_and, and_true, false_and, and_false, or_true, true_or, or_false, false_or, not_true_eq_false, not_false_eq_true, ite_not, z_b0, z_b1, z_b01]
  (repeat' split) <;> first | rfl | (exfalso; omega)
theorem tz_plots (hM : MK R) (hV : MV m) : ev 233 0 [(2, 100)] [] R m = some ((0, mN m), R, m) := by
  have h := MV_n hV
  have e : zw (m 100 0 * m 100 1) = mN m := zw_i (by unfold mN at h; omega) (by unfold mN at h; omega)
  simp only [s233_0, s233_1, s233_4, s233_5, s233_8, s233_9, zps_0, zps_1, zps_2, zps_3, zps_9, Option.bind_some, Option.bind_none, Int.reduceEq, Int.reduceNe, Int.reduceLT, Int.reduceLE, Int.reduceNeg, Int.reduceAdd, Int.reduceSub, Int.reduceMul, reduceIte, if_true, if_false, true_and, and_true, false_and, and_false, or_true, true_or, or_false, false_or, not_true_eq_false, not_false_eq_true, ite_not, z_b0, z_b1, z_b01, rMK0 hM, rMK1 hM, rMK2 hM, rMK3 hM, rMK4 hM, rMK5 hM, rMK6 hM, rMK7 hM, rMK8 hM, rMK9 hM, rMK10 hM, rMK11 hM, rMK12 hM, rMK13 hM, rMK14 hM, rMK15 hM, rMK16 hM, rMK17 hM, rMK18 hM, rMK19 hM, rMK20 hM, rMK21 hM, rMK22 hM, rMK23 hM, rMK24 hM, rMK25 hM, rMK26 hM, rMK27 hM, rMK28 hM, rMK29 hM, rMK30 hM, rMK31 hM, rMK32 hM, rMK33 hM, rMK34 hM, rMK35 hM, rMK36 hM, rMK37 hM, rMK38 hM, rMK39 hM, rMK40 hM, rMK41 hM, rMK42 hM, rMK43 hM, rMK44 hM, rMK45 hM, rMK46 hM, rMK47 hM, rMK48 hM, rMK49 hM, rMK50 hM, rMK51 hM, kMK0, kMK1, kMK2, kMK3, kMK4, kMK5, kMK6, kMK7, kMK8, kMK9, kMK10, kMK11, kMK12, kMK13, kMK14, kMK15, kMK16, kMK17, kMK18, kMK19, kMK20, kMK21, kMK22, kMK23, kMK24, kMK25, kMK26, kMK27, kMK28, kMK29, kMK30, kMK31, kMK32, kMK33, kMK34, kMK35, kMK36, kMK37, kMK38, kMK39, kMK40, kMK41, kMK42, kMK43, kMK44, kMK45, kMK46, kMK47, kMK48, kMK49, kMK50, kMK51, kMK52, kMK53, kMK54, kMK55, kMK56, kMK57, kMK58, kMK59, kMK60, kMK61, kMK62, kMK63, kMK64, kMK65, kMK66, kMK67, kMK68, kMK69, kMK70, kMK71, kMK72, kMK73, kMK74, kMK75, kMK76, kMK77, kMK78, kMK79, kMK80, kMK81, kMK82, kMK83, kMK84, kMK85, kMK86, kMK87, kMK88, kMK89, kMK90, kMK91, kMK92, kMK93, kMK94, kMK95, kMK96, kMK97, kMK98, kMK99, kMK100, kMK101, kMK102, kMK103, kMK104, e]
theorem tz_isPlot (hM : MK R) (hV : MV m) (p : Int) : ev 232 0 [(2, 100), (0, p)] [] R m = some ((0, if 0 ≤ p ∧ p < mN m then 1 else 0), R, m) := by
  have h := MV_n hV
  have P := tz_plots (R := R) hM hV
  have e : zw (mN m - 1) = mN m - 1 := zw_i (by omega) (by omega)
  have e2 : (0 ≤ p ∧ p ≤ mN m - 1) ↔ (0 ≤ p ∧ p < mN m) := by omega
  simp only [s232_0, s232_1, s232_2, s232_3, s232_4, s232_7, s232_8, s232_9, s232_10, s232_13, zps_0, zps_1, zps_2, zps_3, zps_9, Option.bind_some, Option.bind_none, Int.reduceEq, Int.reduceNe, Int.reduceLT, Int.reduceLE, Int.reduceNeg, Int.reduceAdd, Int.reduceSub, Int.reduceMul, reduceIte, if_true, if_false, true_and, and_true, false_and, and_false, or_true, true_or, or_false, false_or, not_true_eq_false, not_false_eq_true, ite_not, z_b0, z_b1, z_b01, z_em, rMK0 hM, rMK1 hM, rMK2 hM, rMK3 hM, rMK4 hM, rMK5 hM, rMK6 hM, rMK7 hM, rMK8 hM, rMK9 hM, rMK10 hM, rMK11 hM, rMK12 hM, rMK13 hM, rMK14 hM, rMK15 hM, rMK16 hM, rMK17 hM, rMK18 hM, rMK19 hM, rMK20 hM, rMK21 hM, rMK22 hM, rMK23 hM, rMK24 hM, rMK25 hM, rMK26 hM, rMK27 hM, rMK28 hM, rMK29 hM, rMK30 hM, rMK31 hM, rMK32 hM, rMK33 hM, rMK34 hM, rMK35 hM, rMK36 hM, rMK37 hM, rMK38 hM, rMK39 hM, rMK40 hM, rMK41 hM, rMK42 hM, rMK43 hM, rMK44 hM, rMK45 hM, rMK46 hM, rMK47 hM, rMK48 hM, rMK49 hM, rMK50 hM, rMK51 hM, kMK0, kMK1, kMK2, kMK3, kMK4, kMK5, kMK6, kMK7, kMK8, kMK9, kMK10, kMK11, kMK12, kMK13, kMK14, kMK15, kMK16, kMK17, kMK18, kMK19, kMK20, kMK21, kMK22, kMK23, kMK24, kMK25, kMK26, kMK27, kMK28, kMK29, kMK30, kMK31, kMK32, kMK33, kMK34, kMK35, kMK36, kMK37, kMK38, kMK39, kMK40, kMK41, kMK42, kMK43, kMK44, kMK45, kMK46, kMK47, kMK48, kMK49, kMK50, kMK51, kMK52, kMK53, kMK54, kMK55, kMK56, kMK57, kMK58, kMK59, kMK60, kMK61, kMK62, kMK63, kMK64, kMK65, kMK66, kMK67, kMK68, kMK69, kMK70, kMK71, kMK72, kMK73, kMK74, kMK75, kMK76, kMK77, kMK78, kMK79, kMK80, kMK81, kMK82, kMK83, kMK84, kMK85, kMK86, kMK87, kMK88, kMK89, kMK90, kMK91, kMK92, kMK93, kMK94, kMK95, kMK96, kMK97, kMK98, kMK99, kMK100, kMK101, kMK102, kMK103, kMK104, P, e, tz_in, e2]
theorem tz_mfar (hM : MK R) (hV : MV m) {p q : Int} (hp : 0 ≤ p ∧ p < mN m) (hq : 0 ≤ q ∧ q < mN m) : ev 256 0 [(2, 100), (0, p), (0, q), (9, 0), (9, 0)] [] R m = some ((0, zfar (m 100 0) p q), R, m) := by
  have h := MV_n hV
  have h1 := zdm (h := m 100 1) hV.1.1 hp.1 hp.2
  have h2 := zdm (h := m 100 1) hV.1.1 hq.1 hq.2
  have hw := hV.1
  have hh := hV.2.1
  have a1 := z_rem (a := p) (b := m 100 0) hp.1 (by omega) (by omega) (by omega)
  have a2 := z_rem (a := q) (b := m 100 0) hq.1 (by omega) (by omega) (by omega)
  have a3 := z_div (a := p) (b := m 100 0) hp.1 (by omega) (by omega) (by omega)
  have a4 := z_div (a := q) (b := m 100 0) hq.1 (by omega) (by omega) (by omega)
  have c0 : ¬ m 100 0 = 0 := by omega
  have b1 : zw (p % m 100 0 - q % m 100 0) = p % m 100 0 - q % m 100 0 := zw_i (by omega) (by omega)
  have b2 : zw (p / m 100 0 - q / m 100 0) = p / m 100 0 - q / m 100 0 := zw_i (by omega) (by omega)
  have n1 : zw (-(p % m 100 0 - q % m 100 0)) = -(p % m 100 0 - q % m 100 0) := zw_i (by omega) (by omega)
  have n2 : zw (-(p / m 100 0 - q / m 100 0)) = -(p / m 100 0 - q / m 100 0) := zw_i (by omega) (by omega)
  have s1 : zw ((p % m 100 0 - q % m 100 0) + (p / m 100 0 - q / m 100 0)) = (p % m 100 0 - q % m 100 0) + (p / m 100 0 - q / m 100 0) := zw_i (by omega) (by omega)
  have s2 : zw (-(p % m 100 0 - q % m 100 0) + (p / m 100 0 - q / m 100 0)) = -(p % m 100 0 - q % m 100 0) + (p / m 100 0 - q / m 100 0) := zw_i (by omega) (by omega)
  have s3 : zw ((p % m 100 0 - q % m 100 0) + -(p / m 100 0 - q / m 100 0)) = (p % m 100 0 - q % m 100 0) + -(p / m 100 0 - q / m 100 0) := zw_i (by omega) (by omega)
  have s4 : zw (-(p % m 100 0 - q % m 100 0) + -(p / m 100 0 - q / m 100 0)) = -(p % m 100 0 - q % m 100 0) + -(p / m 100 0 - q / m 100 0) := zw_i (by omega) (by omega)
  simp only [s256_0, s256_1, s256_2, s256_5, s256_6, s256_7, s256_8, s256_11, s256_12, s256_13, s256_14, s256_15, s256_16, s256_19, s256_20, s256_21, s256_22, s256_25, s256_26, s256_27, s256_29, s256_30, s256_33, s256_34, s256_35, s256_38, s256_39, s256_41, s256_44, s256_46, s256_47, s256_50, s256_52, s256_53, zps_0, zps_1, zps_2, zps_3, zps_9, Option.bind_some, Option.bind_none, Int.reduceEq, Int.reduceNe, Int.reduceLT, Int.reduceLE, Int.reduceNeg, Int.reduceAdd, Int.reduceSub, Int.reduceMul, reduceIte, if_true, if_false, true_and, and_true, false_and, and_false, or_true, true_or, or_false, false_or, not_true_eq_false, not_false_eq_true, ite_not, z_b0, z_b1, z_b01, rMK0 hM, rMK1 hM, rMK2 hM, rMK3 hM, rMK4 hM, rMK5 hM, rMK6 hM, rMK7 hM, rMK8 hM, rMK9 hM, rMK10 hM, rMK11 hM, rMK12 hM, rMK13 hM, rMK14 hM, rMK15 hM, rMK16 hM, rMK17 hM, rMK18 hM, rMK19 hM, rMK20 hM, rMK21 hM, rMK22 hM, rMK23 hM, rMK24 hM, rMK25 hM, rMK26 hM, rMK27 hM, rMK28 hM, rMK29 hM, rMK30 hM, rMK31 hM, rMK32 hM, rMK33 hM, rMK34 hM, rMK35 hM, rMK36 hM, rMK37 hM, rMK38 hM, rMK39 hM, rMK40 hM, rMK41 hM, rMK42 hM, rMK43 hM, rMK44 hM, rMK45 hM, rMK46 hM, rMK47 hM, rMK48 hM, rMK49 hM, rMK50 hM, rMK51 hM, kMK0, kMK1, kMK2, kMK3, kMK4, kMK5, kMK6, kMK7, kMK8, kMK9, kMK10, kMK11, kMK12, kMK13, kMK14, kMK15, kMK16, kMK17, kMK18, kMK19, kMK20, kMK21, kMK22, kMK23, kMK24, kMK25, kMK26, kMK27, kMK28, kMK29, kMK30, kMK31, kMK32, kMK33, kMK34, kMK35, kMK36, kMK37, kMK38, kMK39, kMK40, kMK41, kMK42, kMK43, kMK44, kMK45, kMK46, kMK47, kMK48, kMK49, kMK50, kMK51, kMK52, kMK53, kMK54, kMK55, kMK56, kMK57, kMK58, kMK59, kMK60, kMK61, kMK62, kMK63, kMK64, kMK65, kMK66, kMK67, kMK68, kMK69, kMK70, kMK71, kMK72, kMK73, kMK74, kMK75, kMK76, kMK77, kMK78, kMK79, kMK80, kMK81, kMK82, kMK83, kMK84, kMK85, kMK86, kMK87, kMK88, kMK89, kMK90, kMK91, kMK92, kMK93, kMK94, kMK95, kMK96, kMK97, kMK98, kMK99, kMK100, kMK101, kMK102, kMK103, kMK104, c0, a1, a2, a3, a4, b1, b2, n1, n2, s1, s2, s3, s4]
  unfold zfar zab
  clear s1 s2 s3 s4 n1 n2 b1 b2 a1 a2 a3 a4 h1 h2
  (repeat' split) <;> first | rfl | (exfalso; omega)
theorem zfar_0 {w h p q : Int} (hw : 1 ≤ w) (hp : 0 ≤ p) (hp2 : p < w * h) (hq : 0 ≤ q) (hq2 : q < w * h) : 1 ≤ zfar w p q ↔ q ≠ p := by
  have h1 := zdm hw hp hp2
  have h2 := zdm hw hq hq2
  unfold zfar zab
  constructor
  · intro h3 e
    subst e
    simp at h3
  · intro h3
    by_cases e1 : p % w = q % w
    · by_cases e2 : p / w = q / w
      · exfalso
        apply h3
        rw [h1.2.2.2.2, h2.2.2.2.2, e1, e2]
      · split <;> split <;> omega
    · split <;> split <;> omega
/-- the zw of an index of a row of laws -/
theorem z7 {k : Int} (h : 0 ≤ k ∧ k < 12) : zw (7 * k) = 7 * k ∧ zw (7 * k + 1) = 7 * k + 1 ∧ zw (7 * k + 2) = 7 * k + 2 ∧ zw (7 * k + 3) = 7 * k + 3 ∧ zw (7 * k + 4) = 7 * k + 4 ∧ zw (7 * k + 5) = 7 * k + 5 ∧ zw (7 * k + 6) = 7 * k + 6 ∧ zw (k + 1) = k + 1 := by
  refine ⟨?_, ?_, ?_, ?_, ?_, ?_, ?_, ?_⟩ <;> exact zw_i (by omega) (by omega)
theorem z7b {k : Int} (h : 0 ≤ k ∧ k < 12) : (0 ≤ 7 * k ∧ 7 * k < 84) ∧ (0 ≤ 7 * k + 1 ∧ 7 * k + 1 < 84) ∧ (0 ≤ 7 * k + 2 ∧ 7 * k + 2 < 84) ∧ (0 ≤ 7 * k + 3 ∧ 7 * k + 3 < 84) ∧ (0 ≤ 7 * k + 4 ∧ 7 * k + 4 < 84) ∧ (0 ≤ 7 * k + 5 ∧ 7 * k + 5 < 84) ∧ (0 ≤ 7 * k + 6 ∧ 7 * k + 6 < 84) := by omega
/-- what is needed of the laws -/
def ML (m : zM) (ln : Int) (L : Int → Int) : Prop := m 100 8 = ln ∧ LW ln L ∧ RL ln L (m 105)
theorem tz_mholds (hM : MK R) {ln : Int} {L : Int → Int} (hL : ML m ln L) {k : Int} (hk : 0 ≤ k ∧ k < ln) (y : Int) : ev 252 0 [(2, 100), (0, k), (0, y), (9, 0), (9, 0), (9, 0), (9, 0)] [] R m = some ((0, if zholds ln L k y = true then 1 else 0), R, m) := by
  obtain ⟨hn, hW, hR⟩ := hL
  have h0 := hW.1
  obtain ⟨k0, k1, k2, k3, k4, k5, k6, k8⟩ := z7 (k := k) ⟨hk.1, by omega⟩
  obtain ⟨b0, b1, b2, b3, b4, b5, b6⟩ := z7b (k := k) ⟨hk.1, by omega⟩
  have r0 := RL_0 hR hk.1 hk.2
  have r1 := RL_i hR hk.1 hk.2 1 (by omega) (by omega) (by omega)
  have r2 := RL_i hR hk.1 hk.2 2 (by omega) (by omega) (by omega)
  have hkl := hW.2.1 k hk.1 hk.2
  obtain ⟨Z, hZ⟩ : ∃ Z : Int → Bool, ∀ q, Z q = decide (L (7 * q) = L (7 * k) ∧ L (7 * q + 2) = L (7 * k + 2) ∧ L (7 * q + 1) ≤ y ∧ L (7 * k + 1) < L (7 * q + 1)) := ⟨_, fun _ => rfl⟩
  have key : ∀ (b : Bool) (l6 : zV), ev 252 27 [(2, 100), (0, k), (0, y), (0, L (7 * k + 1)), (0, if b = true then 1 else 0), (0, 0), l6] [] R m = some ((0, if (b && (decide (L (7 * k) = 0 ∨ L (7 * k) = 1) || !zany Z ln.toNat)) = true then 1 else 0), R, m) := by
    intro b0' l6'
    by_cases ha : 2 ≤ L (7 * k)
    · have hd : decide (L (7 * k) = 0 ∨ L (7 * k) = 1) = false := decide_eq_false (by omega)
      rw [hd, Bool.false_or]
      refine zloop (fun r => r = some ((0, if (b0' && !zany Z ln.toNat) = true then 1 else 0), R, m)) (fun q (s : Bool × zV) => ev 252 27 [(2, 100), (0, k), (0, y), (0, L (7 * k + 1)), (0, if s.1 = true then 1 else 0), (0, q), s.2] [] R m) ln (fun q s => 0 ≤ q ∧ s.1 = (b0' && !zany Z q.toNat)) ?_ ?_ 0 (b0', l6') (by omega) ⟨by omega, by simp [zany]⟩
      · intro q ⟨s, l6⟩ hq ⟨q0, hI⟩ ih
        obtain ⟨j0, j1, j2, j3, j4, j5, j6, j8⟩ := z7 (k := q) ⟨q0, by omega⟩
        obtain ⟨c0, c1, c2, c3, c4, c5, c6⟩ := z7b (k := q) ⟨q0, by omega⟩
        have s0 := RL_0 hR q0 hq
        have s1 := RL_i hR q0 hq 1 (by omega) (by omega) (by omega)
        have s2 := RL_i hR q0 hq 2 (by omega) (by omega) (by omega)
        have d0 : ¬ ln ≤ q := by omega
        have d1 : ¬ L (7 * k) < 2 := by omega
        have ih2 := fun a h => ih a ⟨by omega, h⟩
        dsimp only at hI
        rw [zany_step _ q0, hZ] at ih2
        rw [s252_27]
        simp only [s252_0, s252_1, s252_4, s252_6, s252_7, s252_8, s252_9, s252_10, s252_11, s252_12, s252_13, s252_14, s252_17, s252_18, s252_21, s252_22, s252_24, s252_25, s252_29, s252_30, s252_33, s252_36, s252_37, s252_40, s252_42, s252_43, s252_44, s252_45, s252_46, s252_49, s252_50, s252_53, s252_55, s252_57, s252_58, s252_59, s252_60, s252_63, s252_65, s252_66, s252_67, s252_68, s252_71, s252_72, s252_75, s252_77, s252_79, s252_80, s252_81, s252_82, s252_83, s252_84, s252_87, s252_89, s252_90, s252_91, s252_92, s252_93, s252_94, s252_97, s252_98, s252_101, s252_102, s252_104, s252_106, s252_109, s252_111, s252_114, s252_115, s252_118, s252_120, s252_122, s252_123, s252_124, s252_125, s252_126, s252_127, s252_130, s252_131, s252_134, s252_136, s252_138, s252_139, s252_140, s252_141, s252_142, s252_143, s252_146, s252_147, s252_150, s252_151, s252_153, s252_156, s252_159, s252_161, zps_0, zps_1, zps_2, zps_3, zps_9, Option.bind_some, Option.bind_none, Int.reduceEq, Int.reduceNe, Int.reduceLT, Int.reduceLE, Int.reduceNeg, Int.reduceAdd, Int.reduceSub, Int.reduceMul, reduceIte, if_true, if_false, true_and, and_true, false_and, and_false, or_true, true_or, or_false, false_or, not_true_eq_false, not_false_eq_true, ite_not, z_b0, z_b1, z_b01, rMK0 hM, rMK1 hM, rMK2 hM, rMK3 hM, rMK4 hM, rMK5 hM, rMK6 hM, rMK7 hM, rMK8 hM, rMK9 hM, rMK10 hM, rMK11 hM, rMK12 hM, rMK13 hM, rMK14 hM, rMK15 hM, rMK16 hM, rMK17 hM, rMK18 hM, rMK19 hM, rMK20 hM, rMK21 hM, rMK22 hM, rMK23 hM, rMK24 hM, rMK25 hM, rMK26 hM, rMK27 hM, rMK28 hM, rMK29 hM, rMK30 hM, rMK31 hM, rMK32 hM, rMK33 hM, rMK34 hM, rMK35 hM, rMK36 hM, rMK37 hM, rMK38 hM, rMK39 hM, rMK40 hM, rMK41 hM, rMK42 hM, rMK43 hM, rMK44 hM, rMK45 hM, rMK46 hM, rMK47 hM, rMK48 hM, rMK49 hM, rMK50 hM, rMK51 hM, kMK0, kMK1, kMK2, kMK3, kMK4, kMK5, kMK6, kMK7, kMK8, kMK9, kMK10, kMK11, kMK12, kMK13, kMK14, kMK15, kMK16, kMK17, kMK18, kMK19, kMK20, kMK21, kMK22, kMK23, kMK24, kMK25, kMK26, kMK27, kMK28, kMK29, kMK30, kMK31, kMK32, kMK33, kMK34, kMK35, kMK36, kMK37, kMK38, kMK39, kMK40, kMK41, kMK42, kMK43, kMK44, kMK45, kMK46, kMK47, kMK48, kMK49, kMK50, kMK51, kMK52, kMK53, kMK54, kMK55, kMK56, kMK57, kMK58, kMK59, kMK60, kMK61, kMK62, kMK63, kMK64, kMK65, kMK66, kMK67, kMK68, kMK69, kMK70, kMK71, kMK72, kMK73, kMK74, kMK75, kMK76, kMK77, kMK78, kMK79, kMK80, kMK81, kMK82, kMK83, kMK84, kMK85, kMK86, kMK87, kMK88, kMK89, kMK90, kMK91, kMK92, kMK93, kMK94, kMK95, kMK96, kMK97, kMK98, kMK99, kMK100, kMK101, kMK102, kMK103, kMK104, hn, d0, k0, k1, k2, b0, b1, b2, j0, j1, j2, j8, c0, c1, c2, r0, r1, r2, s0, s1, s2, d1]
        by_cases g1 : L (7 * q) = L (7 * k)
        · by_cases g2 : L (7 * q + 2) = L (7 * k + 2)
          · simp only [g1, g2, zps_0, zps_1, zps_2, zps_3, zps_9, Option.bind_some, Option.bind_none, Int.reduceEq, Int.reduceNe, Int.reduceLT, Int.reduceLE, Int.reduceNeg, Int.reduceAdd, Int.reduceSub, Int.reduceMul, reduceIte, if_true, if_false, true_and, and_true, false_and, and_false, or_true, true_or, or_false, false_or, not_true_eq_false, not_false_eq_true, ite_not, z_b0, z_b1, z_b01]
            have := fun b h => ih2 (b, (0, 1)) h
            by_cases g3 : L (7 * q + 1) ≤ y
            · by_cases g4 : L (7 * k + 1) < L (7 * q + 1)
              · have t4 := this false (by simp [g1, g2, g3, g4])
                cases s <;> simp (disch := omega) only [if_neg, if_pos, Bool.false_eq_true, zps_0, zps_1, zps_2, zps_3, zps_9, Option.bind_some, Option.bind_none, Int.reduceEq, Int.reduceNe, Int.reduceLT, Int.reduceLE, Int.reduceNeg, Int.reduceAdd, Int.reduceSub, Int.reduceMul, reduceIte, if_true, if_false, true_and, and_true, false_and, and_false, or_true, true_or, or_false, false_or, not_true_eq_false, not_false_eq_true, ite_not, z_b0, z_b1, z_b01] at t4 ⊢ <;> exact t4
              · have t4 := this s (by rw [hI]; simp [g1, g2, g3, g4])
                cases s <;> simp (disch := omega) only [if_neg, if_pos, Bool.false_eq_true, zps_0, zps_1, zps_2, zps_3, zps_9, Option.bind_some, Option.bind_none, Int.reduceEq, Int.reduceNe, Int.reduceLT, Int.reduceLE, Int.reduceNeg, Int.reduceAdd, Int.reduceSub, Int.reduceMul, reduceIte, if_true, if_false, true_and, and_true, false_and, and_false, or_true, true_or, or_false, false_or, not_true_eq_false, not_false_eq_true, ite_not, z_b0, z_b1, z_b01] at t4 ⊢ <;> exact t4
            · have t4 := this s (by rw [hI]; simp [g1, g2, g3])
              cases s <;> simp (disch := omega) only [if_neg, if_pos, Bool.false_eq_true, zps_0, zps_1, zps_2, zps_3, zps_9, Option.bind_some, Option.bind_none, Int.reduceEq, Int.reduceNe, Int.reduceLT, Int.reduceLE, Int.reduceNeg, Int.reduceAdd, Int.reduceSub, Int.reduceMul, reduceIte, if_true, if_false, true_and, and_true, false_and, and_false, or_true, true_or, or_false, false_or, not_true_eq_false, not_false_eq_true, ite_not, z_b0, z_b1, z_b01] at t4 ⊢ <;> exact t4
          · have t4 := ih2 (s, (0, 0)) (by rw [hI]; simp [g2])
            simp only [g1, g2, zps_0, zps_1, zps_2, zps_3, zps_9, Option.bind_some, Option.bind_none, Int.reduceEq, Int.reduceNe, Int.reduceLT, Int.reduceLE, Int.reduceNeg, Int.reduceAdd, Int.reduceSub, Int.reduceMul, reduceIte, if_true, if_false, true_and, and_true, false_and, and_false, or_true, true_or, or_false, false_or, not_true_eq_false, not_false_eq_true, ite_not, z_b0, z_b1, z_b01]
            cases s <;> simp only [Bool.false_eq_true, zps_0, zps_1, zps_2, zps_3, zps_9, Option.bind_some, Option.bind_none, Int.reduceEq, Int.reduceNe, Int.reduceLT, Int.reduceLE, Int.reduceNeg, Int.reduceAdd, Int.reduceSub, Int.reduceMul, reduceIte, if_true, if_false, true_and, and_true, false_and, and_false, or_true, true_or, or_false, false_or, not_true_eq_false, not_false_eq_true, ite_not, z_b0, z_b1, z_b01] at t4 ⊢ <;> exact t4
        · have t4 := ih2 (s, (0, 0)) (by rw [hI]; simp [g1])
          simp only [g1, zps_0, zps_1, zps_2, zps_3, zps_9, Option.bind_some, Option.bind_none, Int.reduceEq, Int.reduceNe, Int.reduceLT, Int.reduceLE, Int.reduceNeg, Int.reduceAdd, Int.reduceSub, Int.reduceMul, reduceIte, if_true, if_false, true_and, and_true, false_and, and_false, or_true, true_or, or_false, false_or, not_true_eq_false, not_false_eq_true, ite_not, z_b0, z_b1, z_b01]
          cases s <;> simp only [Bool.false_eq_true, zps_0, zps_1, zps_2, zps_3, zps_9, Option.bind_some, Option.bind_none, Int.reduceEq, Int.reduceNe, Int.reduceLT, Int.reduceLE, Int.reduceNeg, Int.reduceAdd, Int.reduceSub, Int.reduceMul, reduceIte, if_true, if_false, true_and, and_true, false_and, and_false, or_true, true_or, or_false, false_or, not_true_eq_false, not_false_eq_true, ite_not, z_b0, z_b1, z_b01] at t4 ⊢ <;> exact t4
      · intro ⟨s, l6⟩ ⟨q0, hI⟩
        rw [s252_27]
        have d0 : ln ≤ ln := Int.le_refl _
        simp only [s252_0, s252_1, s252_4, s252_6, s252_7, s252_8, s252_9, s252_10, s252_11, s252_12, s252_13, s252_14, s252_17, s252_18, s252_21, s252_22, s252_24, s252_25, s252_29, s252_30, s252_33, s252_36, s252_37, s252_40, s252_42, s252_43, s252_44, s252_45, s252_46, s252_49, s252_50, s252_53, s252_55, s252_57, s252_58, s252_59, s252_60, s252_63, s252_65, s252_66, s252_67, s252_68, s252_71, s252_72, s252_75, s252_77, s252_79, s252_80, s252_81, s252_82, s252_83, s252_84, s252_87, s252_89, s252_90, s252_91, s252_92, s252_93, s252_94, s252_97, s252_98, s252_101, s252_102, s252_104, s252_106, s252_109, s252_111, s252_114, s252_115, s252_118, s252_120, s252_122, s252_123, s252_124, s252_125, s252_126, s252_127, s252_130, s252_131, s252_134, s252_136, s252_138, s252_139, s252_140, s252_141, s252_142, s252_143, s252_146, s252_147, s252_150, s252_151, s252_153, s252_156, s252_159, s252_161, zps_0, zps_1, zps_2, zps_3, zps_9, Option.bind_some, Option.bind_none, Int.reduceEq, Int.reduceNe, Int.reduceLT, Int.reduceLE, Int.reduceNeg, Int.reduceAdd, Int.reduceSub, Int.reduceMul, reduceIte, if_true, if_false, true_and, and_true, false_and, and_false, or_true, true_or, or_false, false_or, not_true_eq_false, not_false_eq_true, ite_not, z_b0, z_b1, z_b01, z_em, rMK0 hM, rMK1 hM, rMK2 hM, rMK3 hM, rMK4 hM, rMK5 hM, rMK6 hM, rMK7 hM, rMK8 hM, rMK9 hM, rMK10 hM, rMK11 hM, rMK12 hM, rMK13 hM, rMK14 hM, rMK15 hM, rMK16 hM, rMK17 hM, rMK18 hM, rMK19 hM, rMK20 hM, rMK21 hM, rMK22 hM, rMK23 hM, rMK24 hM, rMK25 hM, rMK26 hM, rMK27 hM, rMK28 hM, rMK29 hM, rMK30 hM, rMK31 hM, rMK32 hM, rMK33 hM, rMK34 hM, rMK35 hM, rMK36 hM, rMK37 hM, rMK38 hM, rMK39 hM, rMK40 hM, rMK41 hM, rMK42 hM, rMK43 hM, rMK44 hM, rMK45 hM, rMK46 hM, rMK47 hM, rMK48 hM, rMK49 hM, rMK50 hM, rMK51 hM, kMK0, kMK1, kMK2, kMK3, kMK4, kMK5, kMK6, kMK7, kMK8, kMK9, kMK10, kMK11, kMK12, kMK13, kMK14, kMK15, kMK16, kMK17, kMK18, kMK19, kMK20, kMK21, kMK22, kMK23, kMK24, kMK25, kMK26, kMK27, kMK28, kMK29, kMK30, kMK31, kMK32, kMK33, kMK34, kMK35, kMK36, kMK37, kMK38, kMK39, kMK40, kMK41, kMK42, kMK43, kMK44, kMK45, kMK46, kMK47, kMK48, kMK49, kMK50, kMK51, kMK52, kMK53, kMK54, kMK55, kMK56, kMK57, kMK58, kMK59, kMK60, kMK61, kMK62, kMK63, kMK64, kMK65, kMK66, kMK67, kMK68, kMK69, kMK70, kMK71, kMK72, kMK73, kMK74, kMK75, kMK76, kMK77, kMK78, kMK79, kMK80, kMK81, kMK82, kMK83, kMK84, kMK85, kMK86, kMK87, kMK88, kMK89, kMK90, kMK91, kMK92, kMK93, kMK94, kMK95, kMK96, kMK97, kMK98, kMK99, kMK100, kMK101, kMK102, kMK103, kMK104, hn, d0]
        rw [← hI]
    · have hd : decide (L (7 * k) = 0 ∨ L (7 * k) = 1) = true := decide_eq_true (by omega)
      have d0 : ¬ ln ≤ 0 := by omega
      have d1 : L (7 * k) < 2 := by omega
      rw [s252_27]
      simp only [s252_0, s252_1, s252_4, s252_6, s252_7, s252_8, s252_9, s252_10, s252_11, s252_12, s252_13, s252_14, s252_17, s252_18, s252_21, s252_22, s252_24, s252_25, s252_29, s252_30, s252_33, s252_36, s252_37, s252_40, s252_42, s252_43, s252_44, s252_45, s252_46, s252_49, s252_50, s252_53, s252_55, s252_57, s252_58, s252_59, s252_60, s252_63, s252_65, s252_66, s252_67, s252_68, s252_71, s252_72, s252_75, s252_77, s252_79, s252_80, s252_81, s252_82, s252_83, s252_84, s252_87, s252_89, s252_90, s252_91, s252_92, s252_93, s252_94, s252_97, s252_98, s252_101, s252_102, s252_104, s252_106, s252_109, s252_111, s252_114, s252_115, s252_118, s252_120, s252_122, s252_123, s252_124, s252_125, s252_126, s252_127, s252_130, s252_131, s252_134, s252_136, s252_138, s252_139, s252_140, s252_141, s252_142, s252_143, s252_146, s252_147, s252_150, s252_151, s252_153, s252_156, s252_159, s252_161, zps_0, zps_1, zps_2, zps_3, zps_9, Option.bind_some, Option.bind_none, Int.reduceEq, Int.reduceNe, Int.reduceLT, Int.reduceLE, Int.reduceNeg, Int.reduceAdd, Int.reduceSub, Int.reduceMul, reduceIte, if_true, if_false, true_and, and_true, false_and, and_false, or_true, true_or, or_false, false_or, not_true_eq_false, not_false_eq_true, ite_not, z_b0, z_b1, z_b01, z_em, rMK0 hM, rMK1 hM, rMK2 hM, rMK3 hM, rMK4 hM, rMK5 hM, rMK6 hM, rMK7 hM, rMK8 hM, rMK9 hM, rMK10 hM, rMK11 hM, rMK12 hM, rMK13 hM, rMK14 hM, rMK15 hM, rMK16 hM, rMK17 hM, rMK18 hM, rMK19 hM, rMK20 hM, rMK21 hM, rMK22 hM, rMK23 hM, rMK24 hM, rMK25 hM, rMK26 hM, rMK27 hM, rMK28 hM, rMK29 hM, rMK30 hM, rMK31 hM, rMK32 hM, rMK33 hM, rMK34 hM, rMK35 hM, rMK36 hM, rMK37 hM, rMK38 hM, rMK39 hM, rMK40 hM, rMK41 hM, rMK42 hM, rMK43 hM, rMK44 hM, rMK45 hM, rMK46 hM, rMK47 hM, rMK48 hM, rMK49 hM, rMK50 hM, rMK51 hM, kMK0, kMK1, kMK2, kMK3, kMK4, kMK5, kMK6, kMK7, kMK8, kMK9, kMK10, kMK11, kMK12, kMK13, kMK14, kMK15, kMK16, kMK17, kMK18, kMK19, kMK20, kMK21, kMK22, kMK23, kMK24, kMK25, kMK26, kMK27, kMK28, kMK29, kMK30, kMK31, kMK32, kMK33, kMK34, kMK35, kMK36, kMK37, kMK38, kMK39, kMK40, kMK41, kMK42, kMK43, kMK44, kMK45, kMK46, kMK47, kMK48, kMK49, kMK50, kMK51, kMK52, kMK53, kMK54, kMK55, kMK56, kMK57, kMK58, kMK59, kMK60, kMK61, kMK62, kMK63, kMK64, kMK65, kMK66, kMK67, kMK68, kMK69, kMK70, kMK71, kMK72, kMK73, kMK74, kMK75, kMK76, kMK77, kMK78, kMK79, kMK80, kMK81, kMK82, kMK83, kMK84, kMK85, kMK86, kMK87, kMK88, kMK89, kMK90, kMK91, kMK92, kMK93, kMK94, kMK95, kMK96, kMK97, kMK98, kMK99, kMK100, kMK101, kMK102, kMK103, kMK104, hn, d0, k0, b0, r0, d1]
      rw [hd, Bool.true_or, Bool.and_true]
  have kt := key true
  have kf := key false
  simp only [zps_0, zps_1, zps_2, zps_3, zps_9, Option.bind_some, Option.bind_none, Int.reduceEq, Int.reduceNe, Int.reduceLT, Int.reduceLE, Int.reduceNeg, Int.reduceAdd, Int.reduceSub, Int.reduceMul, reduceIte, if_true, if_false, true_and, and_true, false_and, and_false, or_true, true_or, or_false, false_or, not_true_eq_false, not_false_eq_true, ite_not, z_b0, z_b1, z_b01, Bool.false_eq_true] at kt kf
  simp only [s252_0, s252_1, s252_4, s252_6, s252_7, s252_8, s252_9, s252_10, s252_11, s252_12, s252_13, s252_14, s252_17, s252_18, s252_21, s252_22, s252_24, s252_25, s252_29, s252_30, s252_33, s252_36, s252_37, s252_40, s252_42, s252_43, s252_44, s252_45, s252_46, s252_49, s252_50, s252_53, s252_55, s252_57, s252_58, s252_59, s252_60, s252_63, s252_65, s252_66, s252_67, s252_68, s252_71, s252_72, s252_75, s252_77, s252_79, s252_80, s252_81, s252_82, s252_83, s252_84, s252_87, s252_89, s252_90, s252_91, s252_92, s252_93, s252_94, s252_97, s252_98, s252_101, s252_102, s252_104, s252_106, s252_109, s252_111, s252_114, s252_115, s252_118, s252_120, s252_122, s252_123, s252_124, s252_125, s252_126, s252_127, s252_130, s252_131, s252_134, s252_136, s252_138, s252_139, s252_140, s252_141, s252_142, s252_143, s252_146, s252_147, s252_150, s252_151, s252_153, s252_156, s252_159, s252_161, zps_0, zps_1, zps_2, zps_3, zps_9, Option.bind_some, Option.bind_none, Int.reduceEq, Int.reduceNe, Int.reduceLT, Int.reduceLE, Int.reduceNeg, Int.reduceAdd, Int.reduceSub, Int.reduceMul, reduceIte, if_true, if_false, true_and, and_true, false_and, and_false, or_true, true_or, or_false, false_or, not_true_eq_false, not_false_eq_true, ite_not, z_b0, z_b1, z_b01, rMK0 hM, rMK1 hM, rMK2 hM, rMK3 hM, rMK4 hM, rMK5 hM, rMK6 hM, rMK7 hM, rMK8 hM, rMK9 hM, rMK10 hM, rMK11 hM, rMK12 hM, rMK13 hM, rMK14 hM, rMK15 hM, rMK16 hM, rMK17 hM, rMK18 hM, rMK19 hM, rMK20 hM, rMK21 hM, rMK22 hM, rMK23 hM, rMK24 hM, rMK25 hM, rMK26 hM, rMK27 hM, rMK28 hM, rMK29 hM, rMK30 hM, rMK31 hM, rMK32 hM, rMK33 hM, rMK34 hM, rMK35 hM, rMK36 hM, rMK37 hM, rMK38 hM, rMK39 hM, rMK40 hM, rMK41 hM, rMK42 hM, rMK43 hM, rMK44 hM, rMK45 hM, rMK46 hM, rMK47 hM, rMK48 hM, rMK49 hM, rMK50 hM, rMK51 hM, kMK0, kMK1, kMK2, kMK3, kMK4, kMK5, kMK6, kMK7, kMK8, kMK9, kMK10, kMK11, kMK12, kMK13, kMK14, kMK15, kMK16, kMK17, kMK18, kMK19, kMK20, kMK21, kMK22, kMK23, kMK24, kMK25, kMK26, kMK27, kMK28, kMK29, kMK30, kMK31, kMK32, kMK33, kMK34, kMK35, kMK36, kMK37, kMK38, kMK39, kMK40, kMK41, kMK42, kMK43, kMK44, kMK45, kMK46, kMK47, kMK48, kMK49, kMK50, kMK51, kMK52, kMK53, kMK54, kMK55, kMK56, kMK57, kMK58, kMK59, kMK60, kMK61, kMK62, kMK63, kMK64, kMK65, kMK66, kMK67, kMK68, kMK69, kMK70, kMK71, kMK72, kMK73, kMK74, kMK75, kMK76, kMK77, kMK78, kMK79, kMK80, kMK81, kMK82, kMK83, kMK84, kMK85, kMK86, kMK87, kMK88, kMK89, kMK90, kMK91, kMK92, kMK93, kMK94, kMK95, kMK96, kMK97, kMK98, kMK99, kMK100, kMK101, kMK102, kMK103, kMK104, k0, k1, b1, r1]
  unfold zholds
  have hZ2 : zany (fun q => decide (L (7 * q) = L (7 * k) ∧ L (7 * q + 2) = L (7 * k + 2) ∧ L (7 * q + 1) ≤ y ∧ L (7 * k + 1) < L (7 * q + 1))) ln.toNat = zany Z ln.toNat := zany_congr (fun q _ _ => (hZ q).symm)
  rw [hZ2]
  by_cases g : L (7 * k + 1) ≤ y
  · rw [if_neg (by omega), kt, decide_eq_true g]
  · rw [if_pos (by omega), kf, decide_eq_false g]
end MODEL1
