/-! the board's methods -/
/-- memory with a row put -/
def zpr (m : zM) (a : Int) (f : Int → Int) : zM := fun b => if b = a then f else m b
theorem zpr_at (m : zM) (a : Int) (f : Int → Int) : zpr m a f a = f := by unfold zpr; simp
theorem zpr_ne {m : zM} {a b : Int} {f : Int → Int} (h : b ≠ a) : zpr m a f b = m b := by unfold zpr; simp [h]
theorem zup_zpr (m : zM) (a k v : Int) : zup m a k v = zpr m a (zrw (m a) k v) := by
  funext b q
  unfold zup zpr zrw
  by_cases h : b = a
  · subst h; simp
  · simp [h]
theorem zpr_zpr (m : zM) (a : Int) (f g : Int → Int) : zpr (zpr m a f) a g = zpr m a g := by
  funext b
  unfold zpr
  by_cases h : b = a <;> simp [h]
theorem zpr_self (m : zM) (a : Int) : zpr m a (m a) = m := by
  funext b
  unfold zpr
  by_cases h : b = a
  · subst h; simp
  · simp [h]
theorem zpr_comm (m : zM) {a b : Int} (h : a ≠ b) (f g : Int → Int) : zpr (zpr m a f) b g = zpr (zpr m b g) a f := by
  funext c
  unfold zpr
  by_cases h1 : c = b
  · subst h1; simp [Ne.symm h]
  · simp [h1]
/-- a row filled -/
def zfll (f : Int → Int) (n v : Int) : Int → Int := fun k => if 0 ≤ k ∧ k < n then v else f k
theorem zfll_0 (f : Int → Int) (v : Int) : zfll f 0 v = f := by
  funext k
  unfold zfll
  rw [if_neg (by omega)]
theorem zfll_s (f : Int → Int) {n : Int} (v : Int) (h : 0 ≤ n) : zrw (zfll f n v) n v = zfll f (n + 1) v := by
  funext k
  unfold zrw zfll
  by_cases h1 : k = n
  · subst h1; rw [if_pos rfl, if_pos ⟨h, by omega⟩]
  · rw [if_neg h1]
    by_cases h2 : 0 ≤ k ∧ k < n
    · rw [if_pos h2, if_pos ⟨h2.1, by omega⟩]
    · rw [if_neg h2, if_neg (by omega)]
theorem zfll_at {f : Int → Int} {n v k : Int} (h : 0 ≤ k ∧ k < n) : zfll f n v k = v := by unfold zfll; rw [if_pos h]
theorem tz_fill {a n : Int} (v : Int) {R m : zM} (hk : KD a = 20) (hn : LN a = n) (h0 : 0 ≤ n) (h1 : n ≤ 100000) : ev 319 0 [(2, a), (0, v), (9, 0), (9, 0)] [] R m = some ((9, 0), R, zpr m a (zfll (m a) n v)) := by
  have ha : 20 ≤ KD a ∧ KD a ≤ 23 := by omega
  simp only [s319_0, s319_1, s319_2, s319_3, s319_4, s319_6, s319_7, s319_10, s319_11, s319_12, s319_13, s319_14, s319_17, s319_20, zps_0, zps_1, zps_2, zps_3, zps_9, Option.bind_some, Option.bind_none, Int.reduceEq, Int.reduceNe, Int.reduceLT, Int.reduceLE, Int.reduceNeg, Int.reduceAdd, Int.reduceSub, Int.reduceMul, reduceIte, if_true, if_false, true_and, and_true, false_and, and_false, or_true, true_or, or_false, false_or, not_true_eq_false, not_false_eq_true, ite_not, z_b0, z_b1, z_b01, hn, hk]
  refine zloop (fun r => r = some ((9, 0), R, zpr m a (zfll (m a) n v))) (fun k m' => ev 319 5 [(2, a), (0, v), (0, k), (0, n)] [] R m') n (fun k m' => 0 ≤ k ∧ m' = zpr m a (zfll (m a) k v)) ?_ ?_ 0 m h0 ⟨Int.le_refl _, by rw [zfll_0, zpr_self]⟩
  · intro k m' hkn ⟨hk0, hm⟩ ih
    subst hm
    rw [s319_5]
    simp only [s319_0, s319_1, s319_2, s319_3, s319_4, s319_6, s319_7, s319_10, s319_11, s319_12, s319_13, s319_14, s319_17, s319_20, zps_0, zps_1, zps_2, zps_3, zps_9, Option.bind_some, Option.bind_none, Int.reduceEq, Int.reduceNe, Int.reduceLT, Int.reduceLE, Int.reduceNeg, Int.reduceAdd, Int.reduceSub, Int.reduceMul, reduceIte, if_true, if_false, true_and, and_true, false_and, and_false, or_true, true_or, or_false, false_or, not_true_eq_false, not_false_eq_true, ite_not, z_b0, z_b1, z_b01, hn, hk]
    rw [if_neg (by omega), if_pos (by omega)]
    rw [zw_i (by omega) (by omega)]
    exact ih _ ⟨by omega, by simp only [zup_zpr, zpr_at, zpr_zpr, zrw_at, zfll_s _ _ hk0]⟩
  · intro m' ⟨hk0, hm⟩
    subst hm
    rw [s319_5]
    simp only [s319_0, s319_1, s319_2, s319_3, s319_4, s319_6, s319_7, s319_10, s319_11, s319_12, s319_13, s319_14, s319_17, s319_20, zps_0, zps_1, zps_2, zps_3, zps_9, Option.bind_some, Option.bind_none, Int.reduceEq, Int.reduceNe, Int.reduceLT, Int.reduceLE, Int.reduceNeg, Int.reduceAdd, Int.reduceSub, Int.reduceMul, reduceIte, if_true, if_false, true_and, and_true, false_and, and_false, or_true, true_or, or_false, false_or, not_true_eq_false, not_false_eq_true, ite_not, z_b0, z_b1, z_b01]
    rw [if_pos (by omega)]
theorem tz_fillJ {a n : Int} (v : Int) {R m : zM} (hk : KD a = 21) (hn : LN a = n) (h0 : 0 ≤ n) (h1 : n ≤ 100000) : ev 320 0 [(2, a), (1, v), (8, 0), (9, 0), (9, 0)] [] R m = some ((9, 0), R, zpr m a (zfll (m a) n v)) := by
  have ha : 20 ≤ KD a ∧ KD a ≤ 23 := by omega
  simp only [s320_0, s320_1, s320_2, s320_3, s320_4, s320_7, s320_9, s320_12, s320_13, s320_14, s320_15, s320_16, s320_19, s320_22, zps_0, zps_1, zps_2, zps_3, zps_9, Option.bind_some, Option.bind_none, Int.reduceEq, Int.reduceNe, Int.reduceLT, Int.reduceLE, Int.reduceNeg, Int.reduceAdd, Int.reduceSub, Int.reduceMul, reduceIte, if_true, if_false, true_and, and_true, false_and, and_false, or_true, true_or, or_false, false_or, not_true_eq_false, not_false_eq_true, ite_not, z_b0, z_b1, z_b01, hn, hk]
  refine zloop (fun r => r = some ((9, 0), R, zpr m a (zfll (m a) n v))) (fun k m' => ev 320 6 [(2, a), (1, v), (8, 0), (0, k), (0, n)] [] R m') n (fun k m' => 0 ≤ k ∧ m' = zpr m a (zfll (m a) k v)) ?_ ?_ 0 m h0 ⟨Int.le_refl _, by rw [zfll_0, zpr_self]⟩
  · intro k m' hkn ⟨hk0, hm⟩ ih
    subst hm
    rw [s320_6]
    simp only [s320_0, s320_1, s320_2, s320_3, s320_4, s320_7, s320_9, s320_12, s320_13, s320_14, s320_15, s320_16, s320_19, s320_22, zps_0, zps_1, zps_2, zps_3, zps_9, Option.bind_some, Option.bind_none, Int.reduceEq, Int.reduceNe, Int.reduceLT, Int.reduceLE, Int.reduceNeg, Int.reduceAdd, Int.reduceSub, Int.reduceMul, reduceIte, if_true, if_false, true_and, and_true, false_and, and_false, or_true, true_or, or_false, false_or, not_true_eq_false, not_false_eq_true, ite_not, z_b0, z_b1, z_b01, hn, hk]
    rw [if_neg (by omega), if_pos (by omega)]
    rw [zw_i (by omega) (by omega)]
    exact ih _ ⟨by omega, by simp only [zup_zpr, zpr_at, zpr_zpr, zrw_at, zfll_s _ _ hk0]⟩
  · intro m' ⟨hk0, hm⟩
    subst hm
    rw [s320_6]
    simp only [s320_0, s320_1, s320_2, s320_3, s320_4, s320_7, s320_9, s320_12, s320_13, s320_14, s320_15, s320_16, s320_19, s320_22, zps_0, zps_1, zps_2, zps_3, zps_9, Option.bind_some, Option.bind_none, Int.reduceEq, Int.reduceNe, Int.reduceLT, Int.reduceLE, Int.reduceNeg, Int.reduceAdd, Int.reduceSub, Int.reduceMul, reduceIte, if_true, if_false, true_and, and_true, false_and, and_false, or_true, true_or, or_false, false_or, not_true_eq_false, not_false_eq_true, ite_not, z_b0, z_b1, z_b01]
    rw [if_pos (by omega)]
theorem tz_within (v l h : Int) (R m : zM) : ev 179 0 [(0, v), (0, l), (0, h)] [] R m = some ((0, if l ≤ v ∧ v ≤ h then 1 else 0), R, m) := by
  simp only [s179_0, s179_1, s179_2, s179_5, s179_6, s179_7, s179_10, s179_11, s179_14, s179_15, zps_0, zps_1, zps_2, zps_3, zps_9, Option.bind_some, Option.bind_none, Int.reduceEq, Int.reduceNe, Int.reduceLT, Int.reduceLE, Int.reduceNeg, Int.reduceAdd, Int.reduceSub, Int.reduceMul, reduceIte, if_true, if_false, true_and, and_true, false_and, and_false, or_true, true_or, or_false, false_or, not_true_eq_false, not_false_eq_true, ite_not, z_b0, z_b1, z_b01]
  (repeat' split) <;> first | rfl | (exfalso; omega)
theorem tz_bit (p : Int) (R m : zM) : ev 180 0 [(0, p)] [] R m = some ((1, zbit p), R, m) := by
  simp only [s180_0, s180_1, s180_2, s180_3, zps_0, zps_1, zps_2, zps_3, zps_9, Option.bind_some, Option.bind_none, Int.reduceEq, Int.reduceNe, Int.reduceLT, Int.reduceLE, Int.reduceNeg, Int.reduceAdd, Int.reduceSub, Int.reduceMul, reduceIte, if_true, if_false, true_and, and_true, false_and, and_false, or_true, true_or, or_false, false_or, not_true_eq_false, not_false_eq_true, ite_not, z_b0, z_b1, z_b01]
  rfl
/-- how far two plots are, the plot beside one -/
def zab (x : Int) : Int := if 0 ≤ x then x else -x
def zfar (w p q : Int) : Int := zab (p % w - q % w) + zab (p / w - q / w)
def zbes (w h p s : Int) : Int := if s = 0 then (if 0 < p / w then p - w else -1) else if s = 1 then (if 0 < p % w then p - 1 else -1) else if s = 2 then (if p % w < w - 1 then p + 1 else -1) else if s = 3 then (if p / w < h - 1 then p + w else -1) else -1
/-- the board is in order -/
def BV (m : zM) (o : Int) : Prop := 1 ≤ m o 0 ∧ m o 0 ≤ 8 ∧ 1 ≤ m o 1 ∧ m o 1 ≤ 8 ∧ m o 2 = m o 0 * m o 1 ∧ m o 2 ≤ 64 ∧ 1 ≤ m o 2 ∧ ∀ p, 0 ≤ p → p < m o 2 → (0 ≤ m (o + 1) p ∧ m (o + 1) p ≤ 2) ∧ (0 ≤ m (o + 2) p ∧ m (o + 2) p ≤ 9) ∧ (0 ≤ m (o + 3) p ∧ m (o + 3) p ≤ 3)
theorem zdm {p w h : Int} (hw : 1 ≤ w) (hp : 0 ≤ p) (hq : p < w * h) : 0 ≤ p / w ∧ p / w < h ∧ 0 ≤ p % w ∧ p % w < w ∧ p = p / w * w + p % w := by
  refine ⟨Int.ediv_nonneg hp (by omega), Int.ediv_lt_of_lt_mul (by omega) (by rw [Int.mul_comm]; exact hq), Int.emod_nonneg _ (by omega), Int.emod_lt_of_pos _ (by omega), ?_⟩
  have := Int.mul_ediv_add_emod p w
  rw [Int.mul_comm] at this
  omega
section BOARD
variable {o : Int} {R m : zM}
theorem tz_has (hB : BK R o) (p : Int) : ev 18 0 [(2, o), (0, p)] [] R m = some ((0, if 0 ≤ p ∧ p < m o 2 then 1 else 0), R, m) := by
  obtain ⟨hBK0, hBK1, hBK2, hBK3, hBK4, hBK5, hBK6, hBK7, hBK8, hBK9, hBK10, hBK11, hBK12, hBK13, hBK14, hBK15⟩ := hB
  simp only [s18_0, s18_1, s18_4, s18_5, s18_6, s18_9, s18_12, s18_13, s18_16, s18_17, zps_0, zps_1, zps_2, zps_3, zps_9, Option.bind_some, Option.bind_none, Int.reduceEq, Int.reduceNe, Int.reduceLT, Int.reduceLE, Int.reduceNeg, Int.reduceAdd, Int.reduceSub, Int.reduceMul, reduceIte, if_true, if_false, true_and, and_true, false_and, and_false, or_true, true_or, or_false, false_or, not_true_eq_false, not_false_eq_true, ite_not, z_b0, z_b1, z_b01, hBK0, hBK1, hBK2, hBK3, hBK4, hBK5, hBK6, hBK7, hBK8, hBK9, hBK10, hBK11, hBK12, hBK13, hBK14, hBK15]
  (repeat' split) <;> first | rfl | (exfalso; omega)
def zth1 (f : Int → Int) (p b : Int) : Int → Int := if 0 ≤ b ∧ b < 5 then zrw f b (zclr (f b) p) else f
def zth2 (f : Int → Int) (p a : Int) : Int → Int := if 0 ≤ a ∧ a < 5 then zrw f a (zset (f a) p) else f
theorem tz_becomeThing (hB : BK R o) (p b a : Int) : ev 22 0 [(2, o), (0, p), (0, b), (0, a)] [] R m = some ((9, 0), R, zpr m (o + 4) (zth2 (zth1 (m (o + 4)) p b) p a)) := by
  obtain ⟨hBK0, hBK1, hBK2, hBK3, hBK4, hBK5, hBK6, hBK7, hBK8, hBK9, hBK10, hBK11, hBK12, hBK13, hBK14, hBK15⟩ := hB
  simp only [s22_0, s22_1, s22_4, s22_5, s22_6, s22_9, s22_10, s22_13, s22_14, s22_15, s22_16, s22_17, s22_20, s22_23, s22_24, s22_25, s22_26, s22_27, s22_30, s22_31, s22_32, s22_35, s22_36, s22_39, s22_40, s22_41, s22_42, s22_43, s22_46, s22_47, s22_48, zps_0, zps_1, zps_2, zps_3, zps_9, Option.bind_some, Option.bind_none, Int.reduceEq, Int.reduceNe, Int.reduceLT, Int.reduceLE, Int.reduceNeg, Int.reduceAdd, Int.reduceSub, Int.reduceMul, reduceIte, if_true, if_false, true_and, and_true, false_and, and_false, or_true, true_or, or_false, false_or, not_true_eq_false, not_false_eq_true, ite_not, z_b0, z_b1, z_b01, hBK0, hBK1, hBK2, hBK3, hBK4, hBK5, hBK6, hBK7, hBK8, hBK9, hBK10, hBK11, hBK12, hBK13, hBK14, hBK15, tz_bit]
  unfold zth2 zth1
  rcases (show b < 0 ∨ 5 ≤ b ∨ (0 ≤ b ∧ b < 5) by omega) with hb | hb | hb <;> rcases (show a < 0 ∨ 5 ≤ a ∨ (0 ≤ a ∧ a < 5) by omega) with ha | ha | ha <;> simp (disch := omega) only [if_pos, if_neg, zup_zpr, zpr_at, zpr_zpr, zrw_at, zpr_self] <;> rfl
theorem tz_useOf (hB : BK R o) (hV : BV m o) {p : Int} (h : 0 ≤ p ∧ p < m o 2) : ev 19 0 [(2, o), (0, p)] [] R m = some ((0, m (o + 3) p), R, m) := by
  obtain ⟨hBK0, hBK1, hBK2, hBK3, hBK4, hBK5, hBK6, hBK7, hBK8, hBK9, hBK10, hBK11, hBK12, hBK13, hBK14, hBK15⟩ := hB
  have h64 := hV.2.2.2.2.2.1
  simp only [s19_0, s19_1, s19_4, s19_5, s19_6, s19_9, s19_12, s19_13, s19_16, s19_17, s19_18, s19_21, s19_22, zps_0, zps_1, zps_2, zps_3, zps_9, Option.bind_some, Option.bind_none, Int.reduceEq, Int.reduceNe, Int.reduceLT, Int.reduceLE, Int.reduceNeg, Int.reduceAdd, Int.reduceSub, Int.reduceMul, reduceIte, if_true, if_false, true_and, and_true, false_and, and_false, or_true, true_or, or_false, false_or, not_true_eq_false, not_false_eq_true, ite_not, z_b0, z_b1, z_b01, hBK0, hBK1, hBK2, hBK3, hBK4, hBK5, hBK6, hBK7, hBK8, hBK9, hBK10, hBK11, hBK12, hBK13, hBK14, hBK15]
  rw [if_neg (by omega), if_neg (by omega), if_pos (by omega)]
theorem tz_heightOf (hB : BK R o) (hV : BV m o) {p : Int} (h : 0 ≤ p ∧ p < m o 2) : ev 26 0 [(2, o), (0, p)] [] R m = some ((0, m (o + 2) p), R, m) := by
  obtain ⟨hBK0, hBK1, hBK2, hBK3, hBK4, hBK5, hBK6, hBK7, hBK8, hBK9, hBK10, hBK11, hBK12, hBK13, hBK14, hBK15⟩ := hB
  have h64 := hV.2.2.2.2.2.1
  simp only [s26_0, s26_1, s26_4, s26_5, s26_6, s26_9, s26_12, s26_13, s26_16, s26_17, s26_18, s26_21, s26_22, zps_0, zps_1, zps_2, zps_3, zps_9, Option.bind_some, Option.bind_none, Int.reduceEq, Int.reduceNe, Int.reduceLT, Int.reduceLE, Int.reduceNeg, Int.reduceAdd, Int.reduceSub, Int.reduceMul, reduceIte, if_true, if_false, true_and, and_true, false_and, and_false, or_true, true_or, or_false, false_or, not_true_eq_false, not_false_eq_true, ite_not, z_b0, z_b1, z_b01, hBK0, hBK1, hBK2, hBK3, hBK4, hBK5, hBK6, hBK7, hBK8, hBK9, hBK10, hBK11, hBK12, hBK13, hBK14, hBK15]
  rw [if_neg (by omega), if_neg (by omega), if_pos (by omega)]
theorem tz_groundOf (hB : BK R o) (hV : BV m o) (p : Int) : ev 24 0 [(2, o), (0, p)] [] R m = some ((0, if 0 ≤ p ∧ p < m o 2 then m (o + 1) p else 1), R, m) := by
  obtain ⟨hBK0, hBK1, hBK2, hBK3, hBK4, hBK5, hBK6, hBK7, hBK8, hBK9, hBK10, hBK11, hBK12, hBK13, hBK14, hBK15⟩ := hB
  have h64 := hV.2.2.2.2.2.1
  simp only [s24_0, s24_1, s24_4, s24_5, s24_6, s24_9, s24_12, s24_13, s24_16, s24_17, s24_18, s24_21, s24_22, zps_0, zps_1, zps_2, zps_3, zps_9, Option.bind_some, Option.bind_none, Int.reduceEq, Int.reduceNe, Int.reduceLT, Int.reduceLE, Int.reduceNeg, Int.reduceAdd, Int.reduceSub, Int.reduceMul, reduceIte, if_true, if_false, true_and, and_true, false_and, and_false, or_true, true_or, or_false, false_or, not_true_eq_false, not_false_eq_true, ite_not, z_b0, z_b1, z_b01, hBK0, hBK1, hBK2, hBK3, hBK4, hBK5, hBK6, hBK7, hBK8, hBK9, hBK10, hBK11, hBK12, hBK13, hBK14, hBK15]
  (repeat' split) <;> first | rfl | (exfalso; omega)
theorem tz_isFree (hB : BK R o) (hV : BV m o) (p : Int) : ev 28 0 [(2, o), (0, p)] [] R m = some ((0, if (0 ≤ p ∧ p < m o 2) ∧ m (o + 1) p = 0 ∧ m (o + 3) p = 0 then 1 else 0), R, m) := by
  have h64 := hV.2.2.2.2.2.1
  have H := tz_has (m := m) hB p
  obtain ⟨hBK0, hBK1, hBK2, hBK3, hBK4, hBK5, hBK6, hBK7, hBK8, hBK9, hBK10, hBK11, hBK12, hBK13, hBK14, hBK15⟩ := hB
  simp only [s28_0, s28_1, s28_2, s28_5, s28_8, s28_9, s28_12, s28_13, s28_14, s28_17, s28_18, s28_21, s28_22, s28_23, s28_26, s28_27, s28_30, s28_31, zps_0, zps_1, zps_2, zps_3, zps_9, Option.bind_some, Option.bind_none, Int.reduceEq, Int.reduceNe, Int.reduceLT, Int.reduceLE, Int.reduceNeg, Int.reduceAdd, Int.reduceSub, Int.reduceMul, reduceIte, if_true, if_false, true_and, and_true, false_and, and_false, or_true, true_or, or_false, false_or, not_true_eq_false, not_false_eq_true, ite_not, z_b0, z_b1, z_b01, hBK0, hBK1, hBK2, hBK3, hBK4, hBK5, hBK6, hBK7, hBK8, hBK9, hBK10, hBK11, hBK12, hBK13, hBK14, hBK15, H]
  (repeat' split) <;> first | rfl | (exfalso; omega)
def zgt (g : Int) : Int := if g = 0 then -1 else g + 2
theorem tz_thingOfGround {g : Int} (hg : 0 ≤ g ∧ g ≤ 2) : ev 21 0 [(0, g)] [] R m = some ((0, zgt g), R, m) := by
  simp only [s21_0, s21_1, s21_4, s21_5, s21_8, s21_9, s21_10, s21_11, s21_12, s21_13, zps_0, zps_1, zps_2, zps_3, zps_9, Option.bind_some, Option.bind_none, Int.reduceEq, Int.reduceNe, Int.reduceLT, Int.reduceLE, Int.reduceNeg, Int.reduceAdd, Int.reduceSub, Int.reduceMul, reduceIte, if_true, if_false, true_and, and_true, false_and, and_false, or_true, true_or, or_false, false_or, not_true_eq_false, not_false_eq_true, ite_not, z_b0, z_b1, z_b01]
  unfold zgt
  split
  · rfl
  · rw [zw_i (x := zw (3 + g) - 1), zw_i (by omega) (by omega)]
    · rw [show (3 : Int) + g - 1 = g + 2 by omega]
    · rw [zw_i (by omega) (by omega)]; omega
    · rw [zw_i (by omega) (by omega)]; omega
theorem tz_putGround (hB : BK R o) (hV : BV m o) (hC : 0 ≤ m o 3 ∧ m o 3 < 2000000000) {p g : Int} (h : 0 ≤ p ∧ p < m o 2) (hg : 0 ≤ g ∧ g ≤ 2) : ev 20 0 [(2, o), (0, p), (0, g), (9, 0)] [] R m = some ((0, m (o + 1) p), R, zpr (zpr (zpr m (o + 1) (zrw (m (o + 1)) p g)) o (zrw (m o) 3 (m o 3 + 1))) (o + 4) (zth2 (zth1 (m (o + 4)) p (zgt (m (o + 1) p))) p (zgt g))) := by
  have h64 := hV.2.2.2.2.2.1
  have hG := (hV.2.2.2.2.2.2.2 p h.1 h.2).1
  have T := fun m' : zM => tz_becomeThing (m := m') hB p (zgt (m (o + 1) p)) (zgt g)
  have T1 := fun m' : zM => tz_thingOfGround (R := R) (m := m') hG
  have T2 := fun m' : zM => tz_thingOfGround (R := R) (m := m') hg
  have H := fun m' : zM => tz_has (m := m') hB p
  obtain ⟨hBK0, hBK1, hBK2, hBK3, hBK4, hBK5, hBK6, hBK7, hBK8, hBK9, hBK10, hBK11, hBK12, hBK13, hBK14, hBK15⟩ := hB
  simp only [s20_0, s20_1, s20_2, s20_5, s20_8, s20_9, s20_10, s20_11, s20_14, s20_17, s20_18, s20_19, s20_20, s20_23, s20_24, s20_25, s20_26, s20_27, s20_30, s20_31, s20_32, s20_33, s20_34, s20_35, s20_38, s20_39, s20_40, s20_43, s20_44, s20_45, s20_46, s20_49, s20_50, s20_53, s20_56, s20_57, zps_0, zps_1, zps_2, zps_3, zps_9, Option.bind_some, Option.bind_none, Int.reduceEq, Int.reduceNe, Int.reduceLT, Int.reduceLE, Int.reduceNeg, Int.reduceAdd, Int.reduceSub, Int.reduceMul, reduceIte, if_true, if_false, true_and, and_true, false_and, and_false, or_true, true_or, or_false, false_or, not_true_eq_false, not_false_eq_true, ite_not, z_b0, z_b1, z_b01, hBK0, hBK1, hBK2, hBK3, hBK4, hBK5, hBK6, hBK7, hBK8, hBK9, hBK10, hBK11, hBK12, hBK13, hBK14, hBK15, H, T1, T2, T, tz_within, h, hg]
  rw [if_pos (by omega), if_pos (by omega)]
  have c : zpr m (o + 1) (zrw (m (o + 1)) p g) o = m o := zpr_ne (by omega)
  simp only [zup_zpr, zpr_at, zpr_zpr, zrw_at, c, zw_i (x := m o 3 + 1) (by omega) (by omega)]
  rw [zpr_ne (by omega), zpr_ne (by omega)]
theorem tz_putHeight (hB : BK R o) (hV : BV m o) (hC : 0 ≤ m o 3 ∧ m o 3 < 2000000000) {p g : Int} (h : 0 ≤ p ∧ p < m o 2) (hg : 0 ≤ g ∧ g ≤ 9) : ev 23 0 [(2, o), (0, p), (0, g), (9, 0)] [] R m = some ((0, m (o + 2) p), R, zpr (zpr m (o + 2) (zrw (m (o + 2)) p g)) o (zrw (m o) 3 (m o 3 + 1))) := by
  have h64 := hV.2.2.2.2.2.1
  have H := fun m' : zM => tz_has (m := m') hB p
  obtain ⟨hBK0, hBK1, hBK2, hBK3, hBK4, hBK5, hBK6, hBK7, hBK8, hBK9, hBK10, hBK11, hBK12, hBK13, hBK14, hBK15⟩ := hB
  simp only [s23_0, s23_1, s23_2, s23_5, s23_8, s23_9, s23_10, s23_12, s23_15, s23_18, s23_19, s23_20, s23_21, s23_24, s23_25, s23_26, s23_27, s23_28, s23_31, s23_32, s23_33, s23_34, s23_35, s23_36, s23_39, s23_40, s23_41, s23_44, s23_45, zps_0, zps_1, zps_2, zps_3, zps_9, Option.bind_some, Option.bind_none, Int.reduceEq, Int.reduceNe, Int.reduceLT, Int.reduceLE, Int.reduceNeg, Int.reduceAdd, Int.reduceSub, Int.reduceMul, reduceIte, if_true, if_false, true_and, and_true, false_and, and_false, or_true, true_or, or_false, false_or, not_true_eq_false, not_false_eq_true, ite_not, z_b0, z_b1, z_b01, hBK0, hBK1, hBK2, hBK3, hBK4, hBK5, hBK6, hBK7, hBK8, hBK9, hBK10, hBK11, hBK12, hBK13, hBK14, hBK15, H, tz_within, h, hg]
  rw [if_pos (by omega), if_pos (by omega)]
  have c : zpr m (o + 2) (zrw (m (o + 2)) p g) o = m o := zpr_ne (by omega)
  simp only [zup_zpr, zpr_at, zpr_zpr, zrw_at, c, zw_i (x := m o 3 + 1) (by omega) (by omega)]
theorem tz_putUse (hB : BK R o) (hV : BV m o) {p g : Int} (h : 0 ≤ p ∧ p < m o 2) (hg : 0 ≤ g ∧ g ≤ 3) : ev 25 0 [(2, o), (0, p), (0, g), (9, 0)] [] R m = some ((0, m (o + 3) p), R, zpr (zpr m (o + 3) (zrw (m (o + 3)) p g)) (o + 4) (zth2 (zth1 (m (o + 4)) p (m (o + 3) p - 1)) p (g - 1))) := by
  have h64 := hV.2.2.2.2.2.1
  have hG := (hV.2.2.2.2.2.2.2 p h.1 h.2).2.2
  have T := fun m' : zM => tz_becomeThing (m := m') hB p (m (o + 3) p - 1) (g - 1)
  have H := fun m' : zM => tz_has (m := m') hB p
  obtain ⟨hBK0, hBK1, hBK2, hBK3, hBK4, hBK5, hBK6, hBK7, hBK8, hBK9, hBK10, hBK11, hBK12, hBK13, hBK14, hBK15⟩ := hB
  simp only [s25_0, s25_1, s25_2, s25_5, s25_8, s25_9, s25_10, s25_11, s25_14, s25_17, s25_18, s25_19, s25_20, s25_23, s25_24, s25_25, s25_26, s25_27, s25_30, s25_31, s25_32, s25_33, s25_34, s25_35, s25_36, s25_37, s25_38, s25_39, s25_40, s25_41, s25_44, s25_45, zps_0, zps_1, zps_2, zps_3, zps_9, Option.bind_some, Option.bind_none, Int.reduceEq, Int.reduceNe, Int.reduceLT, Int.reduceLE, Int.reduceNeg, Int.reduceAdd, Int.reduceSub, Int.reduceMul, reduceIte, if_true, if_false, true_and, and_true, false_and, and_false, or_true, true_or, or_false, false_or, not_true_eq_false, not_false_eq_true, ite_not, z_b0, z_b1, z_b01, hBK0, hBK1, hBK2, hBK3, hBK4, hBK5, hBK6, hBK7, hBK8, hBK9, hBK10, hBK11, hBK12, hBK13, hBK14, hBK15, H, tz_within, h, hg, zw_i (x := m (o + 3) p - 1) (by omega) (by omega), zw_i (x := g - 1) (by omega) (by omega), T]
  rw [if_pos (by omega), if_pos (by omega)]
  simp only [zup_zpr, zpr_at, zpr_zpr, zrw_at]
  rw [zpr_ne (by omega)]
theorem tz_countUse (hB : BK R o) (u : Int) : ev 29 0 [(2, o), (0, u)] [] R m = some ((0, if 1 ≤ u ∧ u ≤ 3 then zcnt (zbt (m (o + 4) (u - 1))) 64 else 0), R, m) := by
  obtain ⟨hBK0, hBK1, hBK2, hBK3, hBK4, hBK5, hBK6, hBK7, hBK8, hBK9, hBK10, hBK11, hBK12, hBK13, hBK14, hBK15⟩ := hB
  simp only [s29_0, s29_1, s29_2, s29_5, s29_6, s29_7, s29_10, s29_11, s29_14, s29_15, s29_16, s29_17, s29_18, s29_21, s29_24, s29_25, zps_0, zps_1, zps_2, zps_3, zps_9, Option.bind_some, Option.bind_none, Int.reduceEq, Int.reduceNe, Int.reduceLT, Int.reduceLE, Int.reduceNeg, Int.reduceAdd, Int.reduceSub, Int.reduceMul, reduceIte, if_true, if_false, true_and, and_true, false_and, and_false, or_true, true_or, or_false, false_or, not_true_eq_false, not_false_eq_true, ite_not, z_b0, z_b1, z_b01, hBK0, hBK1, hBK2, hBK3, hBK4, hBK5, hBK6, hBK7, hBK8, hBK9, hBK10, hBK11, hBK12, hBK13, hBK14, hBK15, tz_bitCount]
  by_cases h : 1 ≤ u ∧ u ≤ 3
  · rw [if_neg (by omega), if_neg (by omega), zw_i (by omega) (by omega), if_pos (by omega), if_pos h]
  · rw [if_neg h]
    split
    · rfl
    · rw [if_pos (by omega)]
theorem tz_countUsed (hB : BK R o) : ev 30 0 [(2, o)] [] R m = some ((0, zcnt (zbt (m (o + 4) 0)) 64 + zcnt (zbt (m (o + 4) 1)) 64 + zcnt (zbt (m (o + 4) 2)) 64), R, m) := by
  have H := fun u => tz_countUse (m := m) hB u
  obtain ⟨hBK0, hBK1, hBK2, hBK3, hBK4, hBK5, hBK6, hBK7, hBK8, hBK9, hBK10, hBK11, hBK12, hBK13, hBK14, hBK15⟩ := hB
  simp only [s30_0, s30_1, s30_2, s30_5, s30_6, s30_7, s30_10, s30_11, s30_12, s30_13, s30_16, s30_17, zps_0, zps_1, zps_2, zps_3, zps_9, Option.bind_some, Option.bind_none, Int.reduceEq, Int.reduceNe, Int.reduceLT, Int.reduceLE, Int.reduceNeg, Int.reduceAdd, Int.reduceSub, Int.reduceMul, reduceIte, if_true, if_false, true_and, and_true, false_and, and_false, or_true, true_or, or_false, false_or, not_true_eq_false, not_false_eq_true, ite_not, z_b0, z_b1, z_b01, hBK0, hBK1, hBK2, hBK3, hBK4, hBK5, hBK6, hBK7, hBK8, hBK9, hBK10, hBK11, hBK12, hBK13, hBK14, hBK15, H]
  have h0 := zcnt_bd (zbt (m (o + 4) 0)) 64
  have h1 := zcnt_bd (zbt (m (o + 4) 1)) 64
  have h2 := zcnt_bd (zbt (m (o + 4) 2)) 64
  rw [zw_i (x := zcnt (zbt (m (o + 4) 0)) 64 + zcnt (zbt (m (o + 4) 1)) 64) (by omega) (by omega), zw_i (by omega) (by omega)]
theorem tz_xOf (hB : BK R o) (hV : BV m o) {p : Int} (h : 0 ≤ p ∧ p < 2147483648) : ev 16 0 [(2, o), (0, p)] [] R m = some ((0, p % m o 0), R, m) := by
  obtain ⟨hBK0, hBK1, hBK2, hBK3, hBK4, hBK5, hBK6, hBK7, hBK8, hBK9, hBK10, hBK11, hBK12, hBK13, hBK14, hBK15⟩ := hB
  have h1 := hV.1
  have h2 := hV.2.1
  simp only [s16_0, s16_1, s16_4, s16_7, s16_8, s16_9, s16_12, s16_13, s16_16, s16_17, zps_0, zps_1, zps_2, zps_3, zps_9, Option.bind_some, Option.bind_none, Int.reduceEq, Int.reduceNe, Int.reduceLT, Int.reduceLE, Int.reduceNeg, Int.reduceAdd, Int.reduceSub, Int.reduceMul, reduceIte, if_true, if_false, true_and, and_true, false_and, and_false, or_true, true_or, or_false, false_or, not_true_eq_false, not_false_eq_true, ite_not, z_b0, z_b1, z_b01, hBK0, hBK1, hBK2, hBK3, hBK4, hBK5, hBK6, hBK7, hBK8, hBK9, hBK10, hBK11, hBK12, hBK13, hBK14, hBK15]
  rw [if_neg (by omega), if_neg (by omega), z_rem h.1 h.2 (by omega) (by omega)]
theorem tz_yOf (hB : BK R o) (hV : BV m o) {p : Int} (h : 0 ≤ p ∧ p < 2147483648) : ev 17 0 [(2, o), (0, p)] [] R m = some ((0, p / m o 0), R, m) := by
  obtain ⟨hBK0, hBK1, hBK2, hBK3, hBK4, hBK5, hBK6, hBK7, hBK8, hBK9, hBK10, hBK11, hBK12, hBK13, hBK14, hBK15⟩ := hB
  have h1 := hV.1
  have h2 := hV.2.1
  simp only [s17_0, s17_1, s17_4, s17_7, s17_8, s17_9, s17_12, s17_13, s17_16, s17_17, zps_0, zps_1, zps_2, zps_3, zps_9, Option.bind_some, Option.bind_none, Int.reduceEq, Int.reduceNe, Int.reduceLT, Int.reduceLE, Int.reduceNeg, Int.reduceAdd, Int.reduceSub, Int.reduceMul, reduceIte, if_true, if_false, true_and, and_true, false_and, and_false, or_true, true_or, or_false, false_or, not_true_eq_false, not_false_eq_true, ite_not, z_b0, z_b1, z_b01, hBK0, hBK1, hBK2, hBK3, hBK4, hBK5, hBK6, hBK7, hBK8, hBK9, hBK10, hBK11, hBK12, hBK13, hBK14, hBK15]
  rw [if_neg (by omega), if_neg (by omega), z_div h.1 h.2 (by omega) (by omega)]
theorem zab_w {x : Int} (h : -1000000 ≤ x ∧ x ≤ 1000000) : (if 0 ≤ x then x else zw (0 - x)) = zab x ∧ 0 ≤ zab x ∧ zab x ≤ 1000000 := by
  unfold zab
  split
  · exact ⟨rfl, by omega, by omega⟩
  · exact ⟨by rw [zw_i (by omega) (by omega)]; omega, by omega, by omega⟩
theorem tz_far (hB : BK R o) (hV : BV m o) {p q : Int} (h : 0 ≤ p ∧ p < m o 2) (h' : 0 ≤ q ∧ q < m o 2) : ev 15 0 [(2, o), (0, p), (0, q)] [] R m = some ((0, zfar (m o 0) p q), R, m) := by
  have h64 := hV.2.2.2.2.2.1
  have X1 := tz_xOf (p := p) hB hV ⟨h.1, by omega⟩
  have X2 := tz_xOf (p := q) hB hV ⟨h'.1, by omega⟩
  have Y1 := tz_yOf (p := p) hB hV ⟨h.1, by omega⟩
  have Y2 := tz_yOf (p := q) hB hV ⟨h'.1, by omega⟩
  have hw := hV.1
  have hw2 := hV.2.1
  have hp := zdm (h := m o 1) hw h.1 (by rw [← hV.2.2.2.2.1]; exact h.2)
  have hq := zdm (h := m o 1) hw h'.1 (by rw [← hV.2.2.2.2.1]; exact h'.2)
  have hh := hV.2.2.2.1
  obtain ⟨hBK0, hBK1, hBK2, hBK3, hBK4, hBK5, hBK6, hBK7, hBK8, hBK9, hBK10, hBK11, hBK12, hBK13, hBK14, hBK15⟩ := hB
  simp only [s15_0, s15_1, s15_2, s15_5, s15_6, s15_7, s15_10, s15_11, s15_14, s15_15, s15_16, s15_19, s15_20, s15_21, s15_24, s15_25, s15_28, s15_29, zps_0, zps_1, zps_2, zps_3, zps_9, Option.bind_some, Option.bind_none, Int.reduceEq, Int.reduceNe, Int.reduceLT, Int.reduceLE, Int.reduceNeg, Int.reduceAdd, Int.reduceSub, Int.reduceMul, reduceIte, if_true, if_false, true_and, and_true, false_and, and_false, or_true, true_or, or_false, false_or, not_true_eq_false, not_false_eq_true, ite_not, z_b0, z_b1, z_b01, hBK0, hBK1, hBK2, hBK3, hBK4, hBK5, hBK6, hBK7, hBK8, hBK9, hBK10, hBK11, hBK12, hBK13, hBK14, hBK15, X1, X2, Y1, Y2]
  rw [zw_i (x := p % m o 0 - q % m o 0) (by omega) (by omega), zw_i (x := p / m o 0 - q / m o 0) (by omega) (by omega)]
  have a1 := zab_w (x := p % m o 0 - q % m o 0) (by omega)
  have a2 := zab_w (x := p / m o 0 - q / m o 0) (by omega)
  rw [a1.1, a2.1, zw_i (by omega) (by omega)]
  rfl
theorem tz_countNear (hB : BK R o) (hV : BV m o) {p d t : Int} (h : 0 ≤ p ∧ p < m o 2) (hd : 1 ≤ d ∧ d ≤ 14) (ht : 0 ≤ t ∧ t < 5) : ev 27 0 [(2, o), (0, p), (0, d), (0, t), (9, 0)] [] R m = some ((0, zcnt (fun q => zbt (m (o + 5) (p * 15 + d)) q && zbt (m (o + 4) t) q) 64), R, m) := by
  have h64 := hV.2.2.2.2.2.1
  obtain ⟨hBK0, hBK1, hBK2, hBK3, hBK4, hBK5, hBK6, hBK7, hBK8, hBK9, hBK10, hBK11, hBK12, hBK13, hBK14, hBK15⟩ := hB
  simp only [s27_0, s27_1, s27_4, s27_5, s27_6, s27_9, s27_12, s27_13, s27_14, s27_17, s27_18, s27_20, s27_23, s27_24, s27_27, s27_28, s27_29, s27_32, s27_33, s27_36, s27_37, s27_39, s27_41, s27_44, s27_45, s27_48, s27_49, s27_51, s27_52, s27_53, s27_54, s27_55, s27_56, s27_59, s27_60, s27_61, s27_62, s27_65, s27_68, s27_69, zps_0, zps_1, zps_2, zps_3, zps_9, Option.bind_some, Option.bind_none, Int.reduceEq, Int.reduceNe, Int.reduceLT, Int.reduceLE, Int.reduceNeg, Int.reduceAdd, Int.reduceSub, Int.reduceMul, reduceIte, if_true, if_false, true_and, and_true, false_and, and_false, or_true, true_or, or_false, false_or, not_true_eq_false, not_false_eq_true, ite_not, z_b0, z_b1, z_b01, hBK0, hBK1, hBK2, hBK3, hBK4, hBK5, hBK6, hBK7, hBK8, hBK9, hBK10, hBK11, hBK12, hBK13, hBK14, hBK15, tz_bitCount]
  rw [if_neg (by omega), if_neg (by omega), if_neg (by omega), if_neg (by omega), if_neg (by omega), if_neg (by omega), zw_i (x := p * 15) (by omega) (by omega), zw_i (x := p * 15 + d) (by omega) (by omega), if_pos (by omega), if_pos (by omega)]
  congr 4
  funext q
  exact zbt_and _ _ q
end BOARD
